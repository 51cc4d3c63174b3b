/-! numbers in ints -/
def eI (o : Option Nat) : Int32 := match o with | none => -1 | some d => nI d
def zI (b : Bool) : Int32 := match b with | false => 0 | true => 1
theorem kI_up {α : Type} (k : α → Int32) (f : Nat → α) (i : Nat) (v : α) (hi : i < 2 ^ 31) : upd (fun j => k (f j)) (nI i).toNatClampNeg (k v) = fun j => k (va_up f i v j) := by
  funext j
  rw [nI_clamp hi]
  by_cases h : j = i
  · simp [upd, va_up, h]
  · simp [upd, va_up, h]
theorem vz_nar (b : Bool) : vp_nar .boolean (zI b) = zI b := by cases b <;> rfl
theorem nz_bool (b : Bool) : narrow .boolean (.int (zI b)) = .int (zI b) := by cases b <;> rfl
theorem eI_neg {o : Option Nat} (h : ∀ d, o = some d → d < 2 ^ 31) : eI o < 0 ↔ o = none := by
  cases o with
  | none => simp [eI]
  | some d => simp [eI]; exact nI_pos' (h d rfl)
theorem eI_m1 {o : Option Nat} (h : ∀ d, o = some d → d < 2 ^ 31) : eI o = -1 ↔ o = none := by
  cases o with
  | none => simp [eI]
  | some d =>
    simp [eI]
    intro q
    have := nI_pos (h d rfl)
    rw [q] at this
    exact this (by decide)
theorem zI_0 {b : Bool} : zI b = 0 ↔ b = false := by cases b <;> simp [zI]
/-! what every method's start knows -/
abbrev ty3 (cI cZ cW : ClassId) : List (ClassId × FieldType) := [(cI, .int), (cZ, .boolean), (cW, .object "CosetTable$Word")]
def EV (D : va_G) (cI cZ cW : ClassId) (U : State) : Prop := va_K D vwCl (ty3 cI cZ cW) U ∧ NW U
theorem EV.warm {D : va_G} {cI cZ cW : ClassId} {s U : State} (hW : s.WarmedH U.vm) (h : EV D cI cZ cW s) : EV D cI cZ cW U := ⟨va_K.moved hW.alike h.1, h.2.warm hW⟩
theorem EV.calling {D : va_G} {cI cZ cW : ClassId} {U : State} {g : JFrame} {mk : MethodId} {a : Array Value} (h : EV D cI cZ cW U) : EV D cI cZ cW (U.calling g mk a) := ⟨va_K.moved (u := U) (U := U.calling g mk a) (Vm.Alike.refl U.vm) h.1, NW.same (s := U) (U := U.calling g mk a) rfl h.2⟩
def CX (p : Program) (s : State) (m : MethodId) (args : Array Value) (c : Code) (cc : ByteArray) (nL : Nat) (own : String) (D : va_G) (cI cZ cW : ClassId) (A : Nat → Prop) : Prop :=
  p.tables.exec = Jvm.exec ∧ c.code = cc ∧ c.maxLocals = nL ∧ s.vm.findClass own = some m.cls ∧ (∀ w ∈ wsL_law, w.before args s = true) ∧ EV D cI cZ cW s ∧ ∀ q, s.heap.size ≤ q → A q
/-- a cell that is only read -/
def RO (D : va_G) (A : Nat → Prop) (s : State) (q : Nat × va_E) : Prop := va_at D vwCl q s.heap ∧ ¬ A q.1
def V (p : Program) (l : Launch) (e : Env) (R : Room) (s : State) (m : MethodId) (args : Array Value) (below : List Frame) (meth : Method) (c : Code) (D : va_G) (A : Nat → Prop) (nL cells slots : Nat) (Q : State → Prop) (ws : va_W) (pc : Nat) (lv : List (Nat × Value)) (st : List Value) : Prop :=
  ∀ (H : Heap) (locs : List Loc) (ls : Array Slot), va_P D vwCl ws H → va_D A ws → va_S A s.heap H locs → lv_has ls nL lv → W p l e R s m args below meth c H locs cells slots Q (F0 m pc ls st)
theorem RO.at {D : va_G} {A : Nat → Prop} {s : State} {q : Nat × va_E} {H : Heap} {locs : List Loc} (h : RO D A s q) (hS : va_S A s.heap H locs) : va_P D vwCl [q] H := by
  intro k x hx
  match k, hx with
  | 0, hx =>
    cases hx
    exact h.1.kept (hS.2.1 _ h.1.lt h.2)
  | k + 1, hx => simp at hx
theorem wlaw_bef {args : Array Value} {s : State} {w : Cond} (h : ∀ w ∈ wsL_law, w.before args s = true) (hw : w ∈ wsL_law) : w.before args s = true := h w hw
section RULES
variable {p : Program} {l : Launch} {e : Env} {R : Room} {s : State} {m : MethodId} {args : Array Value} {below : List Frame} {meth : Method} {c : Code} {D : va_G} {A : Nat → Prop} {nL cells slots : Nat} {Q : State → Prop} {ws : va_W} {pc : Nat} {lv : List (Nat × Value)} {st : List Value}
variable {cc : ByteArray} {own : String} {cI cZ cW : ClassId}
theorem r_iload_n (hc : CX p s m args c cc nL own D cI cZ cW A) {k : Fin 4} {i : Nat} {x : Int32} (hdg : decode cc pc = .ok (.iload_n k, 1)) (hi : (k : Nat) = i) (j : Nat) (hl : lv[j]? = some (i, .int x)) (kk : V p l e R s m args below meth c D A nL cells slots Q ws (pc + 1) lv (.int x :: st)) : V p l e R s m args below meth c D A nL cells slots Q ws pc lv st :=
  fun H locs ls hP hD hS hL => lv_iload_n hc.1 hc.2.1 hdg hi (lv_at hL j hl) (kk H locs ls hP hD hS hL)
theorem r_iload (hc : CX p s m args c cc nL own D cI cZ cW A) {i : Nat} {x : Int32} (hdg : decode cc pc = .ok (.iload i, 2)) (j : Nat) (hl : lv[j]? = some (i, .int x)) (kk : V p l e R s m args below meth c D A nL cells slots Q ws (pc + 2) lv (.int x :: st)) : V p l e R s m args below meth c D A nL cells slots Q ws pc lv st :=
  fun H locs ls hP hD hS hL => lv_iload hc.1 hc.2.1 hdg (lv_at hL j hl) (kk H locs ls hP hD hS hL)
theorem r_lload_n (hc : CX p s m args c cc nL own D cI cZ cW A) {k : Fin 4} {i : Nat} {x : Int64} (hdg : decode cc pc = .ok (.lload_n k, 1)) (hi : (k : Nat) = i) (j : Nat) (hl : lv[j]? = some (i, .long x)) (kk : V p l e R s m args below meth c D A nL cells slots Q ws (pc + 1) lv (.long x :: st)) : V p l e R s m args below meth c D A nL cells slots Q ws pc lv st :=
  fun H locs ls hP hD hS hL => lv_lload_n hc.1 hc.2.1 hdg hi (lv_at hL j hl) (kk H locs ls hP hD hS hL)
theorem r_lload (hc : CX p s m args c cc nL own D cI cZ cW A) {i : Nat} {x : Int64} (hdg : decode cc pc = .ok (.lload i, 2)) (j : Nat) (hl : lv[j]? = some (i, .long x)) (kk : V p l e R s m args below meth c D A nL cells slots Q ws (pc + 2) lv (.long x :: st)) : V p l e R s m args below meth c D A nL cells slots Q ws pc lv st :=
  fun H locs ls hP hD hS hL => lv_lload hc.1 hc.2.1 hdg (lv_at hL j hl) (kk H locs ls hP hD hS hL)
theorem r_aload_n (hc : CX p s m args c cc nL own D cI cZ cW A) {k : Fin 4} {i : Nat} {x : Nat} (hdg : decode cc pc = .ok (.aload_n k, 1)) (hi : (k : Nat) = i) (j : Nat) (hl : lv[j]? = some (i, .ref x)) (kk : V p l e R s m args below meth c D A nL cells slots Q ws (pc + 1) lv (.ref x :: st)) : V p l e R s m args below meth c D A nL cells slots Q ws pc lv st :=
  fun H locs ls hP hD hS hL => lv_aload_n hc.1 hc.2.1 hdg hi (lv_at hL j hl) (kk H locs ls hP hD hS hL)
theorem r_aload (hc : CX p s m args c cc nL own D cI cZ cW A) {i : Nat} {x : Nat} (hdg : decode cc pc = .ok (.aload i, 2)) (j : Nat) (hl : lv[j]? = some (i, .ref x)) (kk : V p l e R s m args below meth c D A nL cells slots Q ws (pc + 2) lv (.ref x :: st)) : V p l e R s m args below meth c D A nL cells slots Q ws pc lv st :=
  fun H locs ls hP hD hS hL => lv_aload hc.1 hc.2.1 hdg (lv_at hL j hl) (kk H locs ls hP hD hS hL)
theorem r_istore_n (hc : CX p s m args c cc nL own D cI cZ cW A) {k : Fin 4} {i : Nat} {x : Int32} {lv' : List (Nat × Value)} (hdg : decode cc pc = .ok (.istore_n k, 1)) (hi : (k : Nat) = i) (hn : i < nL) (hl : (i, Value.int x) :: lv.filter (fun q => !(q.1 == i) && !(q.1 + 1 == i && q.2.category == 2)) = lv') (kk : V p l e R s m args below meth c D A nL cells slots Q ws (pc + 1) lv' st) : V p l e R s m args below meth c D A nL cells slots Q ws pc lv (.int x :: st) :=
  fun H locs ls hP hD hS hL => lv_istore_n hc.1 hc.2.1 hdg hi hL hn hl (fun ls' hL' => kk H locs ls' hP hD hS hL')
theorem r_istore (hc : CX p s m args c cc nL own D cI cZ cW A) {i : Nat} {x : Int32} {lv' : List (Nat × Value)} (hdg : decode cc pc = .ok (.istore i, 2)) (hn : i < nL) (hl : (i, Value.int x) :: lv.filter (fun q => !(q.1 == i) && !(q.1 + 1 == i && q.2.category == 2)) = lv') (kk : V p l e R s m args below meth c D A nL cells slots Q ws (pc + 2) lv' st) : V p l e R s m args below meth c D A nL cells slots Q ws pc lv (.int x :: st) :=
  fun H locs ls hP hD hS hL => lv_istore hc.1 hc.2.1 hdg hL hn hl (fun ls' hL' => kk H locs ls' hP hD hS hL')
theorem r_lstore_n (hc : CX p s m args c cc nL own D cI cZ cW A) {k : Fin 4} {i : Nat} {x : Int64} {lv' : List (Nat × Value)} (hdg : decode cc pc = .ok (.lstore_n k, 1)) (hi : (k : Nat) = i) (hn : i + 1 < nL) (hl : (i, Value.long x) :: lv.filter (fun q => !(q.1 == i) && (!(q.1 == i + 1) && !(q.1 + 1 == i && q.2.category == 2))) = lv') (kk : V p l e R s m args below meth c D A nL cells slots Q ws (pc + 1) lv' st) : V p l e R s m args below meth c D A nL cells slots Q ws pc lv (.long x :: st) :=
  fun H locs ls hP hD hS hL => lv_lstore_n hc.1 hc.2.1 hdg hi hL hn hl (fun ls' hL' => kk H locs ls' hP hD hS hL')
theorem r_lstore (hc : CX p s m args c cc nL own D cI cZ cW A) {i : Nat} {x : Int64} {lv' : List (Nat × Value)} (hdg : decode cc pc = .ok (.lstore i, 2)) (hn : i + 1 < nL) (hl : (i, Value.long x) :: lv.filter (fun q => !(q.1 == i) && (!(q.1 == i + 1) && !(q.1 + 1 == i && q.2.category == 2))) = lv') (kk : V p l e R s m args below meth c D A nL cells slots Q ws (pc + 2) lv' st) : V p l e R s m args below meth c D A nL cells slots Q ws pc lv (.long x :: st) :=
  fun H locs ls hP hD hS hL => lv_lstore hc.1 hc.2.1 hdg hL hn hl (fun ls' hL' => kk H locs ls' hP hD hS hL')
theorem r_astore_n (hc : CX p s m args c cc nL own D cI cZ cW A) {k : Fin 4} {i : Nat} {x : Nat} {lv' : List (Nat × Value)} (hdg : decode cc pc = .ok (.astore_n k, 1)) (hi : (k : Nat) = i) (hn : i < nL) (hl : (i, Value.ref x) :: lv.filter (fun q => !(q.1 == i) && !(q.1 + 1 == i && q.2.category == 2)) = lv') (kk : V p l e R s m args below meth c D A nL cells slots Q ws (pc + 1) lv' st) : V p l e R s m args below meth c D A nL cells slots Q ws pc lv (.ref x :: st) :=
  fun H locs ls hP hD hS hL => lv_astore_n hc.1 hc.2.1 hdg hi hL hn hl (fun ls' hL' => kk H locs ls' hP hD hS hL')
theorem r_iinc (hc : CX p s m args c cc nL own D cI cZ cW A) {i k : Nat} {n : Int} {x v : Int32} {lv' : List (Nat × Value)} (hdg : decode cc pc = .ok (.iinc i n, 3)) (hk : lv[k]? = some (i, .int x)) (hv : x + Int32.ofInt n = v) (hn : i < nL) (hl : (i, Value.int v) :: lv.filter (fun q => !(q.1 == i) && !(q.1 + 1 == i && q.2.category == 2)) = lv') (kk : V p l e R s m args below meth c D A nL cells slots Q ws (pc + 3) lv' st) : V p l e R s m args below meth c D A nL cells slots Q ws pc lv st :=
  fun H locs ls hP hD hS hL => lv_iinc hc.1 hc.2.1 hdg hL hk hv hn hl (fun ls' hL' => kk H locs ls' hP hD hS hL')
theorem r_iconst (hc : CX p s m args c cc nL own D cI cZ cW A) {n : Int} {v : Int32} (hdg : decode cc pc = .ok (.iconst n, 1)) (hv : Int32.ofInt n = v) (kk : V p l e R s m args below meth c D A nL cells slots Q ws (pc + 1) lv (.int v :: st)) : V p l e R s m args below meth c D A nL cells slots Q ws pc lv st :=
  fun H locs ls hP hD hS hL => lv_iconst hc.1 hc.2.1 hdg hv (kk H locs ls hP hD hS hL)
theorem r_bipush (hc : CX p s m args c cc nL own D cI cZ cW A) {n : Int} {v : Int32} (hdg : decode cc pc = .ok (.bipush n, 2)) (hv : (Int8.ofInt n).toInt32 = v) (kk : V p l e R s m args below meth c D A nL cells slots Q ws (pc + 2) lv (.int v :: st)) : V p l e R s m args below meth c D A nL cells slots Q ws pc lv st :=
  fun H locs ls hP hD hS hL => lv_bipush hc.1 hc.2.1 hdg hv (kk H locs ls hP hD hS hL)
theorem r_sipush (hc : CX p s m args c cc nL own D cI cZ cW A) {n : Int} {v : Int32} (hdg : decode cc pc = .ok (.sipush n, 3)) (hv : (Int16.ofInt n).toInt32 = v) (kk : V p l e R s m args below meth c D A nL cells slots Q ws (pc + 3) lv (.int v :: st)) : V p l e R s m args below meth c D A nL cells slots Q ws pc lv st :=
  fun H locs ls hP hD hS hL => lv_sipush hc.1 hc.2.1 hdg hv (kk H locs ls hP hD hS hL)
theorem r_lconst (hc : CX p s m args c cc nL own D cI cZ cW A) {n : Fin 2} {v : Int64} (hdg : decode cc pc = .ok (.lconst n, 1)) (hv : Int64.ofNat (n : Nat) = v) (kk : V p l e R s m args below meth c D A nL cells slots Q ws (pc + 1) lv (.long v :: st)) : V p l e R s m args below meth c D A nL cells slots Q ws pc lv st :=
  fun H locs ls hP hD hS hL => lv_lconst hc.1 hc.2.1 hdg hv (kk H locs ls hP hD hS hL)
theorem r_iadd (hc : CX p s m args c cc nL own D cI cZ cW A) {x y v : Int32} (hdg : decode cc pc = .ok (.iadd, 1)) (hv : x + y = v) (kk : V p l e R s m args below meth c D A nL cells slots Q ws (pc + 1) lv (.int v :: st)) : V p l e R s m args below meth c D A nL cells slots Q ws pc lv (.int y :: .int x :: st) :=
  fun H locs ls hP hD hS hL => lv_iadd hc.1 hc.2.1 hdg (hv ▸ kk H locs ls hP hD hS hL)
theorem r_isub (hc : CX p s m args c cc nL own D cI cZ cW A) {x y v : Int32} (hdg : decode cc pc = .ok (.isub, 1)) (hv : x - y = v) (kk : V p l e R s m args below meth c D A nL cells slots Q ws (pc + 1) lv (.int v :: st)) : V p l e R s m args below meth c D A nL cells slots Q ws pc lv (.int y :: .int x :: st) :=
  fun H locs ls hP hD hS hL => lv_isub hc.1 hc.2.1 hdg (hv ▸ kk H locs ls hP hD hS hL)
theorem r_imul (hc : CX p s m args c cc nL own D cI cZ cW A) {x y v : Int32} (hdg : decode cc pc = .ok (.imul, 1)) (hv : x * y = v) (kk : V p l e R s m args below meth c D A nL cells slots Q ws (pc + 1) lv (.int v :: st)) : V p l e R s m args below meth c D A nL cells slots Q ws pc lv (.int y :: .int x :: st) :=
  fun H locs ls hP hD hS hL => lv_imul hc.1 hc.2.1 hdg (hv ▸ kk H locs ls hP hD hS hL)
theorem r_ixor (hc : CX p s m args c cc nL own D cI cZ cW A) {x y v : Int32} (hdg : decode cc pc = .ok (.ixor, 1)) (hv : x ^^^ y = v) (kk : V p l e R s m args below meth c D A nL cells slots Q ws (pc + 1) lv (.int v :: st)) : V p l e R s m args below meth c D A nL cells slots Q ws pc lv (.int y :: .int x :: st) :=
  fun H locs ls hP hD hS hL => lv_ixor hc.1 hc.2.1 hdg (hv ▸ kk H locs ls hP hD hS hL)
theorem r_iand (hc : CX p s m args c cc nL own D cI cZ cW A) {x y v : Int32} (hdg : decode cc pc = .ok (.iand, 1)) (hv : x &&& y = v) (kk : V p l e R s m args below meth c D A nL cells slots Q ws (pc + 1) lv (.int v :: st)) : V p l e R s m args below meth c D A nL cells slots Q ws pc lv (.int y :: .int x :: st) :=
  fun H locs ls hP hD hS hL => lv_iand hc.1 hc.2.1 hdg (hv ▸ kk H locs ls hP hD hS hL)
theorem r_ineg (hc : CX p s m args c cc nL own D cI cZ cW A) {x v : Int32} (hdg : decode cc pc = .ok (.ineg, 1)) (hv : -x = v) (kk : V p l e R s m args below meth c D A nL cells slots Q ws (pc + 1) lv (.int v :: st)) : V p l e R s m args below meth c D A nL cells slots Q ws pc lv (.int x :: st) :=
  fun H locs ls hP hD hS hL => lv_ineg hc.1 hc.2.1 hdg (hv ▸ kk H locs ls hP hD hS hL)
theorem r_idiv (hc : CX p s m args c cc nL own D cI cZ cW A) {x y v : Int32} (hdg : decode cc pc = .ok (.idiv, 1)) (hne : ¬ y = 0) (hv : x / y = v) (kk : V p l e R s m args below meth c D A nL cells slots Q ws (pc + 1) lv (.int v :: st)) : V p l e R s m args below meth c D A nL cells slots Q ws pc lv (.int y :: .int x :: st) :=
  fun H locs ls hP hD hS hL => lv_idiv hc.1 hc.2.1 hdg hne (hv ▸ kk H locs ls hP hD hS hL)
theorem r_irem (hc : CX p s m args c cc nL own D cI cZ cW A) {x y v : Int32} (hdg : decode cc pc = .ok (.irem, 1)) (hne : ¬ y = 0) (hv : x - x / y * y = v) (kk : V p l e R s m args below meth c D A nL cells slots Q ws (pc + 1) lv (.int v :: st)) : V p l e R s m args below meth c D A nL cells slots Q ws pc lv (.int y :: .int x :: st) :=
  fun H locs ls hP hD hS hL => lv_irem hc.1 hc.2.1 hdg hne (hv ▸ kk H locs ls hP hD hS hL)
theorem r_dup (hc : CX p s m args c cc nL own D cI cZ cW A) {va : Value} (hdg : decode cc pc = .ok (.dup, 1)) (hva : va.category = 1) (kk : V p l e R s m args below meth c D A nL cells slots Q ws (pc + 1) lv (va :: va :: st)) : V p l e R s m args below meth c D A nL cells slots Q ws pc lv (va :: st) :=
  fun H locs ls hP hD hS hL => lv_dup hc.1 hc.2.1 hdg hva (kk H locs ls hP hD hS hL)
theorem r_pop (hc : CX p s m args c cc nL own D cI cZ cW A) {va : Value} (hdg : decode cc pc = .ok (.pop, 1)) (hva : va.category = 1) (kk : V p l e R s m args below meth c D A nL cells slots Q ws (pc + 1) lv st) : V p l e R s m args below meth c D A nL cells slots Q ws pc lv (va :: st) :=
  fun H locs ls hP hD hS hL => lv_pop hc.1 hc.2.1 hdg hva (kk H locs ls hP hD hS hL)
theorem r_dup2 (hc : CX p s m args c cc nL own D cI cZ cW A) {va vb : Value} (hdg : decode cc pc = .ok (.dup2, 1)) (hva : va.category = 1) (hvb : vb.category = 1) (kk : V p l e R s m args below meth c D A nL cells slots Q ws (pc + 1) lv (va :: vb :: va :: vb :: st)) : V p l e R s m args below meth c D A nL cells slots Q ws pc lv (va :: vb :: st) :=
  fun H locs ls hP hD hS hL => lv_dup2_11 hc.1 hc.2.1 hdg hva hvb (kk H locs ls hP hD hS hL)
theorem r_goto (hc : CX p s m args c cc nL own D cI cZ cW A) {off : Int} (tgt : Nat) (hdg : decode cc pc = .ok (.goto off, 3)) (ht : (pc : Int) + off = (tgt : Int)) (kk : V p l e R s m args below meth c D A nL cells slots Q ws tgt lv st) : V p l e R s m args below meth c D A nL cells slots Q ws pc lv st :=
  fun H locs ls hP hD hS hL => lv_goto hc.1 hc.2.1 hdg ht (kk H locs ls hP hD hS hL)
end RULES
