/-! the state of Cosets: entries, leaders, fallen, fallenCount, fresh, isFresh, freshCount, open, columns, made, living -/
abbrev CS : Type := (Nat → Option Nat) × (Nat → Nat) × (Nat → Nat) × Nat × (Nat → Nat) × (Nat → Bool) × Nat × Nat × Nat × Nat × Nat
def sE (σ : CS) : Nat → Option Nat := σ.1
def sL (σ : CS) : Nat → Nat := σ.2.1
def sF (σ : CS) : Nat → Nat := σ.2.2.1
def sFc (σ : CS) : Nat := σ.2.2.2.1
def sR (σ : CS) : Nat → Nat := σ.2.2.2.2.1
def sS (σ : CS) : Nat → Bool := σ.2.2.2.2.2.1
def sRc (σ : CS) : Nat := σ.2.2.2.2.2.2.1
def sO (σ : CS) : Nat := σ.2.2.2.2.2.2.2.1
def sC (σ : CS) : Nat := σ.2.2.2.2.2.2.2.2.1
def sM (σ : CS) : Nat := σ.2.2.2.2.2.2.2.2.2.1
def sV (σ : CS) : Nat := σ.2.2.2.2.2.2.2.2.2.2
abbrev wX (cI cZ : ClassId) (h aE aL aF aR aS : Nat) (e : Nat → Option Nat) (ld fa : Nat → Nat) (fc : Nat) (fr : Nat → Nat) (sf : Nat → Bool) (rc op co md vv : Nat) : va_W := [(h, .inr (1, [.ref aE, .ref aL, .ref aF, .int (nI fc), .ref aR, .ref aS, .int (nI rc), .int (nI op), .int (nI co), .int (nI md), .int (nI vv)])), (aE, .inl (cI, 1200, .inl (fun j => eI (e j)))), (aL, .inl (cI, 200, .inl (fun j => nI (ld j)))), (aF, .inl (cI, 200, .inl (fun j => nI (fa j)))), (aR, .inl (cI, 1200, .inl (fun j => nI (fr j)))), (aS, .inl (cZ, 1200, .inl (fun j => zI (sf j))))]
abbrev wS (cI cZ : ClassId) (h aE aL aF aR aS : Nat) (σ : CS) : va_W := wX cI cZ h aE aL aF aR aS (sE σ) (sL σ) (sF σ) (sFc σ) (sR σ) (sS σ) (sRc σ) (sO σ) (sC σ) (sM σ) (sV σ)
theorem n_dec {a k : Nat} {n : Int} (h : k ≤ a) (hn : Int32.ofInt n = -(nI k) := by rfl) : nI a + Int32.ofInt n = nI (a - k) := by
  rw [hn, ← pk_sub h, Int32.sub_eq_add_neg]
/-- what is known of a coset and a column; open places; what is alive -/
def liv (σ : CS) (c : Nat) : Bool := decide (c < sM σ) && decide (sL σ c = c)
def BD (σ : CS) : Prop := sM σ ≤ 200 ∧ sC σ ≤ 6 ∧ (∀ i, sL σ i < 200) ∧ (∀ i, sF σ i < 200) ∧ (∀ i, sR σ i < 1200) ∧ (∀ i d, sE σ i = some d → d < 200) ∧ sRc σ ≤ 1200 ∧ sFc σ ≤ 200 ∧ sV σ ≤ 200 ∧ sO σ ≤ 1200
def opn (σ : CS) (p : Nat) : Bool := decide (p % 6 < sC σ) && (liv σ (p / 6) && decide (sE σ p = none))
theorem r_lv {p : Program} {l : Launch} {e : Env} {R : Room} {s : State} {m : MethodId} {args : Array Value} {below : List Frame} {meth : Method} {c : Code} {D : va_G} {A : Nat → Prop} {nL cells slots : Nat} {Q : State → Prop} {ws : va_W} {pc : Nat} {lv lv' : List (Nat × Value)} {st : List Value} (ks : List Nat) (hl : lv_pick lv ks = lv') (kk : V p l e R s m args below meth c D A nL cells slots Q ws pc lv' st) : V p l e R s m args below meth c D A nL cells slots Q ws pc lv st :=
  fun H locs ls hP hD hS hL => kk H locs ls hP hD hS (lv_sub hL ks hl)
set_option maxHeartbeats 4000000 in
set_option maxRecDepth 100000 in
/-- at(k, x) -/
theorem c_at (l : Launch) (D : va_G) (cI cZ cW : ClassId) (h aE aL aF aR aS : Nat) (σ : CS) (k x : Nat) (hk : k < 200) (hx : x < 6) : CtI l yX1_at cX1_at 3 (some .int) 0 0 0 0 D cI cZ cW [.ref h, .int (nI k), .int (nI x)] ([]) (wS cI cZ h aE aL aF aR aS σ) (S := Unit) (fun r _ => r = eI (sE σ (k * 6 + x))) (fun _ => []) := by
  refine CtI.mk (by decide) (Nat.le_of_ble_eq_true rfl) ?_
  intro p e s m args below meth c A hc hr hlk hnm hro
  generalize hQ : MQ below _ args s 0 0 A = Q
  show V p l e (RM 0 0 0 0) s m args below meth c D A 3 0 0 Q ([]) 0 [(0, .ref h), (1, .int (nI k)), (2, .int (nI x))] []
  refine r_aload_n hc dX1_at_0 rfl 0 rfl ?_
  refine r_getR hc inlX1 (hro _ (List.mem_of_getElem? (i := 0) rfl)) rfl 0 (by decide) fl_X1_9 rfl rfl dX1_at_1 ?_
  refine r_iload_n hc dX1_at_4 rfl 1 rfl ?_
  refine r_bipush (v := (nI 6)) hc dX1_at_5 rfl ?_
  refine n_mul hc dX1_at_7 ?_
  refine r_iload_n hc dX1_at_8 rfl 2 rfl ?_
  refine n_add hc dX1_at_9 ?_
  refine r_ialdR hc eI (hro _ (List.mem_of_getElem? (i := 1) rfl)) (by omega) (by decide) dX1_at_10 ?_
  rw [← hQ]
  exact r_iret hc hr hlk () (rfl) rfl dX1_at_11
