section RULES4
variable {p : Program} {l : Launch} {e : Env} {R : Room} {s : State} {m : MethodId} {args : Array Value} {below : List Frame} {meth : Method} {c : Code} {D : va_G} {A : Nat → Prop} {nL cells slots : Nat} {Q : State → Prop} {ws : va_W} {pc : Nat} {lv : List (Nat × Value)} {st : List Value}
variable {cc : ByteArray} {own : String} {cI cZ cW : ClassId}
theorem r_lcmp (hc : CX p s m args c cc nL own D cI cZ cW A) {x y : Int64} (hdg : decode cc pc = .ok (.lcmp, 1)) (kk : V p l e R s m args below meth c D A nL cells slots Q ws (pc + 1) lv (.int (lg_cmp x y) :: st)) : V p l e R s m args below meth c D A nL cells slots Q ws pc lv (.long y :: .long x :: st) := fun H locs ls hP hD hS hL => W.lcmp hc.1 hc.2.1 hdg (kk H locs ls hP hD hS hL)
theorem r_i2l (hc : CX p s m args c cc nL own D cI cZ cW A) {x : Int32} {v : Int64} (hdg : decode cc pc = .ok (.i2l, 1)) (hv : x.toInt64 = v) (kk : V p l e R s m args below meth c D A nL cells slots Q ws (pc + 1) lv (.long v :: st)) : V p l e R s m args below meth c D A nL cells slots Q ws pc lv (.int x :: st) := fun H locs ls hP hD hS hL => lv_i2l hc.1 hc.2.1 hdg hv (kk H locs ls hP hD hS hL)
theorem r_lrem (hc : CX p s m args c cc nL own D cI cZ cW A) {x y : Int64} (hdg : decode cc pc = .ok (.lrem, 1)) (hne : ¬ y = 0) (kk : V p l e R s m args below meth c D A nL cells slots Q ws (pc + 1) lv (.long (x - x / y * y) :: st)) : V p l e R s m args below meth c D A nL cells slots Q ws pc lv (.long y :: .long x :: st) := fun H locs ls hP hD hS hL => lv_lrem hc.1 hc.2.1 hdg hne (kk H locs ls hP hD hS hL)
theorem r_ldiv (hc : CX p s m args c cc nL own D cI cZ cW A) {x y : Int64} (hdg : decode cc pc = .ok (.ldiv, 1)) (hne : ¬ y = 0) (kk : V p l e R s m args below meth c D A nL cells slots Q ws (pc + 1) lv (.long (x / y) :: st)) : V p l e R s m args below meth c D A nL cells slots Q ws pc lv (.long y :: .long x :: st) := fun H locs ls hP hD hS hL => lv_ldiv hc.1 hc.2.1 hdg hne (kk H locs ls hP hD hS hL)
theorem r_lmul (hc : CX p s m args c cc nL own D cI cZ cW A) {x y : Int64} (hdg : decode cc pc = .ok (.lmul, 1)) (kk : V p l e R s m args below meth c D A nL cells slots Q ws (pc + 1) lv (.long (x * y) :: st)) : V p l e R s m args below meth c D A nL cells slots Q ws pc lv (.long y :: .long x :: st) := fun H locs ls hP hD hS hL => lv_lmul hc.1 hc.2.1 hdg (kk H locs ls hP hD hS hL)
theorem r_ldc2 (hc : CX p s m args c cc nL own D cI cZ cW A) {index : Nat} {v : Int64} (hcn : Cond.constantLong own index v ∈ wsL_law) (hdg : decode cc pc = .ok (.ldc2_w index, 3)) (kk : V p l e R s m args below meth c D A nL cells slots Q ws (pc + 3) lv (.long v :: st)) : V p l e R s m args below meth c D A nL cells slots Q ws pc lv st := fun H locs ls hP hD hS hL => lv_ldc2 hc.1 hc.2.1 hc.2.2.2.1 (hc.2.2.2.2.1 _ hcn) hdg (kk H locs ls hP hD hS hL)
theorem cmp_le (x y : Int64) : lg_cmp x y ≤ 0 ↔ ¬ y < x := by
  unfold lg_cmp
  by_cases h : x > y
  · rw [if_pos h]; exact ⟨fun q => absurd q (by decide), fun q => absurd h q⟩
  · rw [if_neg h]
    refine ⟨fun _ => h, fun _ => ?_⟩
    split <;> decide
theorem c_if_le (hc : CX p s m args c cc nL own D cI cZ cW A) {x y : Int64} {off : Int} (tgt : Nat) (hdg : decode cc pc = .ok (.ifCond .le off, 3)) (ht : (pc : Int) + off = (tgt : Int)) (kt : ¬ y < x → V p l e R s m args below meth c D A nL cells slots Q ws tgt lv st) (kf : y < x → V p l e R s m args below meth c D A nL cells slots Q ws (pc + 3) lv st) : V p l e R s m args below meth c D A nL cells slots Q ws pc lv (.int (lg_cmp x y) :: st) := r_if_le hc tgt hdg ht (fun h => kt ((cmp_le x y).mp h)) (fun h => kf (Decidable.byContradiction fun q => h ((cmp_le x y).mpr q)))
theorem r_mmin (hc : CX p s m args c cc nL own D cI cZ cW A) {index a b : Nat} (hml : Cond.methodLink own index Lib.Math.min.name ∈ wsL_law) (ha : a < 2 ^ 31) (hb : b < 2 ^ 31) (hfr : 1 ≤ R.frames) (hlo : (st.map fun v => v.category).sum + 13 ≤ R.locals) (hce : cells ≤ R.cells ∧ slots ≤ R.slots) (hdg : decode cc pc = .ok (.invokestatic index, 3)) (kk : V p l e R s m args below meth c D A nL cells slots Q ws (pc + 3) lv (.int (nI (if b < a then b else a)) :: st)) : V p l e R s m args below meth c D A nL cells slots Q ws pc lv (.int (nI b) :: .int (nI a) :: st) :=
  fun H locs ls hP hD hS hL => va_mmin hc.1 hc.2.1 (hc.2.2.1.trans hL.1.symm) hc.2.2.2.1 (hc.2.2.2.2.1 _ hml) (hc.2.2.2.2.1 _ st_Math_min) (hc.2.2.2.2.1 _ in_java_lang_Math) (hc.2.2.2.2.1 _ co_Math_min) hfr hlo hce.1 hce.2 hdg (by rw [n_min ha hb]; exact kk H locs ls hP hD hS hL)
end RULES4
theorem lrem_toInt (a b : Int64) (hb : 0 < b) : (a - a / b * b).toInt = a.toInt.tmod b.toInt := by
  have h : a - a / b * b = Int64.ofInt (a.toInt - a.toInt.tdiv b.toInt * b.toInt) := by
    rw [Int64.ofInt_sub, Int64.ofInt_mul, Int64.ofInt_tdiv (Int64.minValue_le_toInt a) (Int64.toInt_le a) (Int64.minValue_le_toInt b) (Int64.toInt_le b), Int64.ofInt_toInt, Int64.ofInt_toInt]
  have hb2 : 0 < b.toInt := by simpa using (Int64.lt_iff_toInt_lt.mp hb)
  have e : a.toInt - a.toInt.tdiv b.toInt * b.toInt = a.toInt.tmod b.toInt := by rw [Int.tmod_def, Int.mul_comm]
  have h1 := Int.tmod_lt_of_pos a.toInt hb2
  have h2 : -b.toInt < a.toInt.tmod b.toInt := Int.lt_tmod_of_pos _ hb2
  have h3 := Int64.toInt_lt b
  rw [h, e, Int64.toInt_ofInt_of_le (by omega) (by omega)]
def gl (fu : Nat) (a b : Int64) : Int64 := match fu with | 0 => a | fu + 1 => if 0 < b then gl fu b (a - a / b * b) else a
def gcL (a b : Int64) : Int64 := gl (b.toInt.toNat + 1) a b
theorem rem_lt (a b : Int64) (hb : 0 < b) : (a - a / b * b).toInt.toNat < b.toInt.toNat := by
  have hb2 : 0 < b.toInt := by simpa using (Int64.lt_iff_toInt_lt.mp hb)
  have h1 := Int.tmod_lt_of_pos a.toInt hb2
  rw [lrem_toInt a b hb]; omega
theorem gl_fuel (n : Nat) : ∀ (a b : Int64), b.toInt.toNat ≤ n → ∀ k, b.toInt.toNat + 1 ≤ k → gl k a b = gl (b.toInt.toNat + 1) a b := by
  induction n with
  | zero =>
    intro a b hb k hk
    obtain ⟨j, rfl⟩ : ∃ j, k = j + 1 := ⟨k - 1, by omega⟩
    have : ¬ 0 < b := fun q => by
      have hb2 : 0 < b.toInt := by simpa using (Int64.lt_iff_toInt_lt.mp q)
      omega
    rw [gl, gl, if_neg this, if_neg this]
  | succ n ih =>
    intro a b hb k hk
    obtain ⟨j, rfl⟩ : ∃ j, k = j + 1 := ⟨k - 1, by omega⟩
    rw [gl, gl]
    split
    · rename_i h
      have := rem_lt a b h
      rw [ih b _ (by omega) j (by omega), ih b _ (by omega) b.toInt.toNat (by omega)]
    · rfl
theorem gcL_step {a b : Int64} (hb : 0 < b) : gcL a b = gcL b (a - a / b * b) := by
  have := rem_lt a b hb
  rw [gcL, gl, if_pos hb, gcL, gl_fuel _ b _ (Nat.le_refl _) b.toInt.toNat (by omega)]
theorem gcL_stop {a b : Int64} (hb : ¬ 0 < b) : gcL a b = a := by rw [gcL, gl, if_neg hb]
def lcL (a b : Int64) : Int64 := a / gcL a b * b
def ooI (f : Nat → Nat) (z : Nat) (se0 : Nat → Bool) (k : Nat) : (Nat → Bool) × Int64 := match k with
  | 0 => (se0, 1)
  | k + 1 => ((cyc f z (ooI f z se0 k).1 k 0).1, if 0 < (cyc f z (ooI f z se0 k).1 k 0).2 then lcL (ooI f z se0 k).2 (lN (cyc f z (ooI f z se0 k).1 k 0).2) else (ooI f z se0 k).2)
theorem ooI_p {f : Nat → Nat} {z : Nat} {se0 se : Nat → Bool} {k : Nat} {n : Int64} (h : ooI f z se0 k = (se, n)) (hC : 0 < (cyc f z se k 0).2) : ooI f z se0 (k + 1) = ((cyc f z se k 0).1, lcL n (lN (cyc f z se k 0).2)) := by
  rw [ooI, h]; simp only; rw [if_pos hC]
theorem ooI_n {f : Nat → Nat} {z : Nat} {se0 se : Nat → Bool} {k : Nat} {n : Int64} (h : ooI f z se0 k = (se, n)) (hC : (cyc f z se k 0).2 = 0) : ooI f z se0 (k + 1) = ((cyc f z se k 0).1, n) := by
  rw [ooI, h]; simp only; rw [if_neg (by omega)]
set_option maxHeartbeats 4000000 in
set_option maxRecDepth 100000 in
/-- leastCommonMultiple(a0, b0) -/
theorem c_lcm (l : Launch) (D : va_G) (cI cZ cW : ClassId) (a0 b0 : Int64) (hb0 : 0 < b0) (hbn : b0.toInt.toNat ≤ 200) : CtL l yX0_leastCommonMultiple cX0_leastCommonMultiple 11 (some .long) 0 0 0 0 D cI cZ cW [.long a0, .long b0] ([]) ([]) (S := Unit) (fun r _ => r = lcL a0 b0) (fun _ => []) := by
  refine CtL.mk (by decide) (Nat.le_of_ble_eq_true rfl) ?_
  intro p e s m args below meth c A hc hr hlk hnm hro
  generalize hQ : MQ below _ args s 0 0 A = Q
  show V p l e (RM 0 0 0 0) s m args below meth c D A 11 0 0 Q ([]) 0 [(0, .long a0), (2, .long b0)] []
  refine r_lload_n hc dX0_leastCommonMultiple_0 rfl 0 rfl ?_
  refine r_lstore (lv' := [(4, .long a0), (0, .long a0), (2, .long b0)]) hc dX0_leastCommonMultiple_1 (by decide) rfl ?_
  refine r_lload_n hc dX0_leastCommonMultiple_3 rfl 2 rfl ?_
  refine r_lstore (lv' := [(6, .long b0), (4, .long a0), (0, .long a0), (2, .long b0)]) hc dX0_leastCommonMultiple_4 (by decide) rfl ?_
  refine r_iconst (v := (nI 0)) hc dX0_leastCommonMultiple_6 rfl ?_
  refine r_istore (lv' := [(8, .int (nI 0)), (6, .long b0), (4, .long a0), (0, .long a0), (2, .long b0)]) hc dX0_leastCommonMultiple_7 (by decide) rfl ?_
  have lp9 : ∀ (n : Nat) (x1 y1 : Int64) (i : Nat), y1.toInt.toNat = n → (gcL x1 y1 = gcL a0 b0) → (0 < y1 ∨ 0 < x1) → (i + y1.toInt.toNat ≤ 200) → V p l e (RM 0 0 0 0) s m args below meth c D A 11 0 0 Q ([]) 9 [(8, .int (nI i)), (6, .long y1), (4, .long x1), (0, .long a0), (2, .long b0)] [] := by
    intro n
    induction n using Nat.strongRecOn with
    | _ n ih9 =>
    intro x1 y1 i hm9 hg hxy hiy
    refine r_iload hc dX0_leastCommonMultiple_9 0 rfl ?_
    refine r_ldc hc cn_X0_94 dX0_leastCommonMultiple_11 ?_
    rw [show (1000000 : Int32) = nI 1000000 from rfl]
    refine n_icmp_ge hc 44 dX0_leastCommonMultiple_13 (by decide) (by omega) (by omega) (fun h1 => ?_) (fun h1 => ?_)
    · exact absurd h1 (by omega)
    · refine r_lload hc dX0_leastCommonMultiple_16 1 rfl ?_
      refine r_lconst (v := 0) hc dX0_leastCommonMultiple_18 rfl ?_
      refine r_lcmp hc dX0_leastCommonMultiple_19 ?_
      refine c_if_le hc 44 dX0_leastCommonMultiple_20 (by decide) (fun h2 => ?_) (fun h2 => ?_)
      · have hx0 : 0 < x1 := hxy.resolve_left h2
        have hx1 : ¬ x1 = 0 := fun q => by rw [q] at hx0; exact absurd hx0 (by decide)
        refine r_lload hc dX0_leastCommonMultiple_44 2 rfl ?_
        refine r_lconst (v := 0) hc dX0_leastCommonMultiple_46 rfl ?_
        refine r_lcmp hc dX0_leastCommonMultiple_47 ?_
        refine c_if_le hc 60 dX0_leastCommonMultiple_48 (by decide) (fun h3 => ?_) (fun h3 => ?_)
        · exact absurd hx0 h3
        · refine r_lload_n hc dX0_leastCommonMultiple_51 rfl 3 rfl ?_
          refine r_lload hc dX0_leastCommonMultiple_52 2 rfl ?_
          refine r_ldiv hc dX0_leastCommonMultiple_54 hx1 ?_
          refine r_lload_n hc dX0_leastCommonMultiple_55 rfl 4 rfl ?_
          refine r_lmul hc dX0_leastCommonMultiple_56 ?_
          refine r_goto hc 61 dX0_leastCommonMultiple_57 (by decide) ?_
          rw [← hQ]
          exact r_lret hc hr hlk () (by show _ = lcL a0 b0; rw [lcL, ← hg, gcL_stop h2]) rfl dX0_leastCommonMultiple_61
      · have hy0 : ¬ y1 = 0 := fun q => by rw [q] at h2; exact absurd h2 (by decide)
        refine r_lload hc dX0_leastCommonMultiple_23 2 rfl ?_
        refine r_lload hc dX0_leastCommonMultiple_25 1 rfl ?_
        refine r_lrem hc dX0_leastCommonMultiple_27 hy0 ?_
        refine r_lstore (lv' := [(9, .long (x1 - x1 / y1 * y1)), (8, .int (nI i)), (6, .long y1), (4, .long x1), (0, .long a0), (2, .long b0)]) hc dX0_leastCommonMultiple_28 (by decide) rfl ?_
        refine r_lload hc dX0_leastCommonMultiple_30 2 rfl ?_
        refine r_lstore (lv' := [(4, .long y1), (9, .long (x1 - x1 / y1 * y1)), (8, .int (nI i)), (6, .long y1), (0, .long a0), (2, .long b0)]) hc dX0_leastCommonMultiple_32 (by decide) rfl ?_
        refine r_lload hc dX0_leastCommonMultiple_34 1 rfl ?_
        refine r_lstore (lv' := [(6, .long (x1 - x1 / y1 * y1)), (4, .long y1), (9, .long (x1 - x1 / y1 * y1)), (8, .int (nI i)), (0, .long a0), (2, .long b0)]) hc dX0_leastCommonMultiple_36 (by decide) rfl ?_
        refine r_iinc (k := 3) (v := (nI (i + 1))) (lv' := [(8, .int (nI (i + 1))), (6, .long (x1 - x1 / y1 * y1)), (4, .long y1), (9, .long (x1 - x1 / y1 * y1)), (0, .long a0), (2, .long b0)]) hc dX0_leastCommonMultiple_38 rfl (nI_add _ _) (by decide) rfl ?_
        refine r_goto hc 9 dX0_leastCommonMultiple_41 (by decide) ?_
        refine r_lv [0, 1, 2, 4, 5] rfl ?_
        exact ih9 _ (by rw [← hm9]; exact rem_lt x1 y1 h2) y1 (x1 - x1 / y1 * y1) (i + 1) rfl (by rw [← hg]; exact (gcL_step h2).symm) (Or.inr h2) (by have := rem_lt x1 y1 h2; omega)
  refine r_lv [0, 1, 2, 3, 4] rfl ?_
  exact lp9 _ a0 b0 0 rfl rfl (Or.inl hb0) (by omega)
set_option maxHeartbeats 4000000 in
set_option maxRecDepth 100000 in
/-- orderOf(word) -/
theorem c_orderOf (l : Launch) (D : va_G) (cI cZ cW : ClassId) (ha h hs1 aU aN aT aG : Nat) (α : AS) (aE aL aF aR aS : Nat) (σ : CS) (hw aw : Nat) (col : Nat → Nat) (len : Nat) (hl : len ≤ 24) (hcol : ∀ j, col j < 6) (f : Nat → Nat) (hf : ImF (sE σ) (tU α) (tN α) (tZ α) col len f) (hB : BA α) : CtL l yX0_orderOf cX0_orderOf 6 (some .long) 3 70 0 0 D cI cZ cW [.ref ha, .ref hw] (wA cI cZ ha h hs1 aU aN aT aG α) (wS cI cZ h aE aL aF aR aS σ ++ wW cI hw aw col len) (S := AS) (fun r u => r = (ooI f (tZ α) (frgI (tS α) (tZ α)) (tZ α)).2 ∧ ∃ se, u = (tU α, tN α, se, tR α, tZ α)) (fun u => wA cI cZ ha h hs1 aU aN aT aG u) := by
  refine CtL.mk (by decide) (Nat.le_of_ble_eq_true rfl) ?_
  intro p e s m args below meth c A hc hr hlk hnm hro
  generalize hQ : MQ below _ args s 0 0 A = Q
  have hB0 := hB
  obtain ⟨bZ, bN, bU, bG⟩ := hB
  show V p l e (RM 3 70 0 0) s m args below meth c D A 6 0 0 Q (wA cI cZ ha h hs1 aU aN aT aG α) 0 [(0, .ref ha), (1, .ref hw)] []
  refine r_aload_n hc dX0_orderOf_0 rfl 0 rfl ?_
  refine r_callV (As := []) (n := 0) (wr := []) hc (c_forgetSeen l D cI cZ cW ha h hs1 aU aN aT aG α hB0) co_yX0_forgetSeen in_X0 ml_X0_63 (by decide +kernel) rfl ⟨by decide, by decide⟩ ⟨by decide, by decide⟩ im_yX0_forgetSeen se_yX0_forgetSeen rfl (Or.inl ⟨0, _, rfl⟩) rfl (Nat.le_of_ble_eq_true rfl) [0, 1, 2, 3, 4] [] rfl rfl rfl rfl (by decide) (fun q hq => absurd hq List.not_mem_nil) dX0_orderOf_1 (fun u e1 => ?_)
  show V p l e (RM 3 70 0 0) s m args below meth c D A 6 0 0 Q (wA cI cZ ha h hs1 aU aN aT aG u) 4 [(0, .ref ha), (1, .ref hw)] []
  subst e1
  show V p l e (RM 3 70 0 0) s m args below meth c D A 6 0 0 Q (wB cI cZ ha h hs1 aU aN aT aG (tU α) (tN α) (frgI (tS α) (tZ α)) (tR α) (tZ α)) 4 [(0, .ref ha), (1, .ref hw)] []
  refine r_lconst (v := 1) hc dX0_orderOf_4 rfl ?_
  refine r_lstore_n (lv' := [(2, .long 1), (0, .ref ha), (1, .ref hw)]) hc dX0_orderOf_5 rfl (by decide) rfl ?_
  refine r_iconst (v := (nI 0)) hc dX0_orderOf_6 rfl ?_
  refine r_istore (lv' := [(4, .int (nI 0)), (2, .long 1), (0, .ref ha), (1, .ref hw)]) hc dX0_orderOf_7 (by decide) rfl ?_
  have lp9 : ∀ (n : Nat) (se : Nat → Bool) (n0 : Int64) (k : Nat), tZ α - k = n → (k ≤ tZ α) → (ooI f (tZ α) (frgI (tS α) (tZ α)) k = (se, n0)) → V p l e (RM 3 70 0 0) s m args below meth c D A 6 0 0 Q (wB cI cZ ha h hs1 aU aN aT aG (tU α) (tN α) se (tR α) (tZ α)) 9 [(4, .int (nI k)), (2, .long n0), (0, .ref ha), (1, .ref hw)] [] := by
    intro n
    induction n using Nat.strongRecOn with
    | _ n ih9 =>
    intro se n0 k hm9 hk hcc
    refine r_iload hc dX0_orderOf_9 0 rfl ?_
    refine r_aload_n hc dX0_orderOf_11 rfl 2 rfl ?_
    refine r_get hc inlX0 0 rfl rfl 6 (by decide) fl_X0_33 rfl rfl dX0_orderOf_12 ?_
    refine n_icmp_ge hc 46 dX0_orderOf_15 (by decide) (by omega) (by omega) (fun h2 => ?_) (fun h2 => ?_)
    · refine r_lload_n hc dX0_orderOf_46 rfl 1 rfl ?_
      rw [← hQ]
      have hz : ooI f (tZ α) (frgI (tS α) (tZ α)) (tZ α) = (se, n0) := by rw [← hcc, show k = tZ α by omega]
      exact r_lret hc hr hlk (tU α, tN α, se, tR α, tZ α) ⟨by rw [hz], ⟨se, rfl⟩⟩ rfl dX0_orderOf_47
    · refine r_aload_n hc dX0_orderOf_18 rfl 2 rfl ?_
      refine r_aload_n hc dX0_orderOf_19 rfl 3 rfl ?_
      refine r_iload hc dX0_orderOf_20 0 rfl ?_
      refine r_callI (As := [.ref hw, .int (nI k)]) (n := 2) (wr := []) hc (c_seeCycle l D cI cZ cW ha h hs1 aU aN aT aG (tU α, tN α, se, tR α, tZ α) aE aL aF aR aS σ hw aw col len k (by show k < tZ α; omega) hl hcol f hf (show BA (tU α, tN α, se, tR α, tZ α) from ⟨bZ, bN, bU, bG⟩)) co_yX0_seeCycle in_X0 ml_X0_66 (by decide +kernel) rfl ⟨by decide, by decide⟩ ⟨by decide, by decide⟩ im_yX0_seeCycle se_yX0_seeCycle rfl (Or.inl ⟨0, _, rfl⟩) rfl (Nat.le_of_ble_eq_true rfl) [0, 1, 2, 3, 4] [] rfl rfl rfl rfl (by decide) (fun q hq => Or.inr (hro q hq)) dX0_orderOf_22 (fun r0 u e3 => ?_)
      show V p l e (RM 3 70 0 0) s m args below meth c D A 6 0 0 Q (wA cI cZ ha h hs1 aU aN aT aG u) 25 [(4, .int (nI k)), (2, .long n0), (0, .ref ha), (1, .ref hw)] [.int r0]
      obtain ⟨rfl, rfl⟩ := e3
      show V p l e (RM 3 70 0 0) s m args below meth c D A 6 0 0 Q (wB cI cZ ha h hs1 aU aN aT aG (tU α) (tN α) ((cyc f (tZ α) se k 0).1) (tR α) (tZ α)) 25 [(4, .int (nI k)), (2, .long n0), (0, .ref ha), (1, .ref hw)] [.int (nI ((cyc f (tZ α) se k 0).2))]
      have hle : (cyc f (tZ α) se k 0).2 ≤ 0 + tZ α := cyc_le
      refine r_istore (lv' := [(5, .int (nI ((cyc f (tZ α) se k 0).2))), (4, .int (nI k)), (2, .long n0), (0, .ref ha), (1, .ref hw)]) hc dX0_orderOf_25 (by decide) rfl ?_
      refine r_iload hc dX0_orderOf_27 0 rfl ?_
      refine n_if_le hc 40 dX0_orderOf_29 (by decide) (by omega) (fun h4 => ?_) (fun h4 => ?_)
      · refine r_iinc (k := 1) (v := (nI (k + 1))) (lv' := [(4, .int (nI (k + 1))), (5, .int (nI ((cyc f (tZ α) se k 0).2))), (2, .long n0), (0, .ref ha), (1, .ref hw)]) hc dX0_orderOf_40 rfl (nI_add _ _) (by decide) rfl ?_
        refine r_goto hc 9 dX0_orderOf_43 (by decide) ?_
        refine r_lv [0, 2, 3, 4] rfl ?_
        exact ih9 _ (by omega) _ n0 (k + 1) rfl (by omega) (ooI_n hcc h4)
      · refine r_lload_n hc dX0_orderOf_32 rfl 2 rfl ?_
        refine r_iload hc dX0_orderOf_33 0 rfl ?_
        refine r_i2l (v := lN ((cyc f (tZ α) se k 0).2)) hc dX0_orderOf_35 (nI_l (by omega)) ?_
        have hLp : (0 : Int64) < lN (cyc f (tZ α) se k 0).2 := by rw [← show lN 0 = (0 : Int64) from rfl]; exact (pk_lLT (by decide) (by omega)).mpr h4
        have hLn : (lN (cyc f (tZ α) se k 0).2).toInt.toNat ≤ 200 := by rw [pk_lT (by omega)]; omega
        refine r_callsL (As := [.long n0, .long (lN ((cyc f (tZ α) se k 0).2))]) (n := 2) (wr := wB cI cZ ha h hs1 aU aN aT aG (tU α) (tN α) ((cyc f (tZ α) se k 0).1) (tR α) (tZ α)) hc (c_lcm l D cI cZ cW n0 (lN (cyc f (tZ α) se k 0).2) hLp hLn) co_yX0_leastCommonMultiple in_X0 ml_X0_70 (by decide +kernel) rfl ⟨by decide, by decide⟩ ⟨by decide, by decide⟩ st_yX0_leastCommonMultiple rfl (Nat.le_of_ble_eq_true rfl) [] [0, 1, 2, 3, 4] rfl rfl rfl rfl (by decide) (fun q hq => absurd hq List.not_mem_nil) dX0_orderOf_36 (fun r5 u6 e7 => ?_)
        subst e7
        show V p l e (RM 3 70 0 0) s m args below meth c D A 6 0 0 Q (wB cI cZ ha h hs1 aU aN aT aG (tU α) (tN α) ((cyc f (tZ α) se k 0).1) (tR α) (tZ α)) 39 [(5, .int (nI ((cyc f (tZ α) se k 0).2))), (4, .int (nI k)), (2, .long n0), (0, .ref ha), (1, .ref hw)] [.long (lcL n0 (lN (cyc f (tZ α) se k 0).2))]
        refine r_lstore_n (lv' := [(2, .long (lcL n0 (lN (cyc f (tZ α) se k 0).2))), (5, .int (nI ((cyc f (tZ α) se k 0).2))), (4, .int (nI k)), (0, .ref ha), (1, .ref hw)]) hc dX0_orderOf_39 rfl (by decide) rfl ?_
        refine r_iinc (k := 2) (v := (nI (k + 1))) (lv' := [(4, .int (nI (k + 1))), (2, .long (lcL n0 (lN (cyc f (tZ α) se k 0).2))), (5, .int (nI ((cyc f (tZ α) se k 0).2))), (0, .ref ha), (1, .ref hw)]) hc dX0_orderOf_40 rfl (nI_add _ _) (by decide) rfl ?_
        refine r_goto hc 9 dX0_orderOf_43 (by decide) ?_
        refine r_lv [0, 1, 3, 4] rfl ?_
        exact ih9 _ (by omega) _ _ (k + 1) rfl (by omega) (ooI_p hcc h4)
  refine r_lv [0, 1, 2, 3] rfl ?_
  exact lp9 _ (frgI (tS α) (tZ α)) 1 0 rfl (Nat.zero_le _) rfl
