/-! contracts: what a method takes, what it leaves; their start, their end, their use -/
def PC (D : va_G) (cI cZ cW : ClassId) (ws ro : va_W) (sz : Nat) (U : State) : Prop := U.heap.size = sz ∧ EV D cI cZ cW U ∧ va_P D vwCl ws U.heap ∧ va_D (fun _ => True) ws ∧ ∀ q ∈ ro, va_at D vwCl q U.heap ∧ ¬ va_A ws sz q.1
def QB (D : va_G) (A : Nat → Prop) {S : Type} (W' : S → va_W) (u : S) (t : State) : Prop := va_P D vwCl (W' u) t.heap ∧ va_D A (W' u)
abbrev RM (fr lo mc ms : Nat) : Room := { frames := fr, cells := mc, slots := ms, locals := lo }
def CtI (l : Launch) (y : MethodName) (cc : ByteArray) (maxL : Nat) (ret : Option FieldType) (fr lo mc ms : Nat) (D : va_G) (cI cZ cW : ClassId) (av : List Value) (ws ro : va_W) {S : Type} (post : Int32 → S → Prop) (W' : S → va_W) : Prop :=
  ∀ sz, Met l y (.code y cc maxL ret :: wsL_law) (RM fr lo mc ms) (va_Pc av (PC D cI cZ cW ws ro sz)) (va_Qi post (QB D (va_A ws sz) W') (va_A ws sz)) mc ms (va_A ws sz)
def CtL (l : Launch) (y : MethodName) (cc : ByteArray) (maxL : Nat) (ret : Option FieldType) (fr lo mc ms : Nat) (D : va_G) (cI cZ cW : ClassId) (av : List Value) (ws ro : va_W) {S : Type} (post : Int64 → S → Prop) (W' : S → va_W) : Prop :=
  ∀ sz, Met l y (.code y cc maxL ret :: wsL_law) (RM fr lo mc ms) (va_Pc av (PC D cI cZ cW ws ro sz)) (va_Ql post (QB D (va_A ws sz) W') (va_A ws sz)) mc ms (va_A ws sz)
def CtV (l : Launch) (y : MethodName) (cc : ByteArray) (maxL : Nat) (ret : Option FieldType) (fr lo mc ms : Nat) (D : va_G) (cI cZ cW : ClassId) (av : List Value) (ws ro : va_W) {S : Type} (post : S → Prop) (W' : S → va_W) : Prop :=
  ∀ sz, Met l y (.code y cc maxL ret :: wsL_law) (RM fr lo mc ms) (va_Pc av (PC D cI cZ cW ws ro sz)) (va_Qv post (QB D (va_A ws sz) W') (va_A ws sz)) mc ms (va_A ws sz)
theorem PC.blind {D : va_G} {cI cZ cW : ClassId} {ws ro : va_W} {sz : Nat} {av : List Value} : FrameBlind (va_Pc av (PC D cI cZ cW ws ro sz)) := fun a U g mk h => ⟨h.1, h.2.1, h.2.2.1.calling, h.2.2.2.1, h.2.2.2.2⟩
theorem wlaw_good {y : MethodName} {cc : ByteArray} {maxL : Nat} {ret : Option FieldType} (hco : Cond.code y cc maxL ret ∈ wsL_law) : GoodIn wsL_law (.code y cc maxL ret :: wsL_law) := fun w hw => (List.mem_cons.mp hw).elim (fun h => h ▸ ⟨hco, good_of_word (List.all_eq_true.mp good_law _ hco)⟩) (fun h => ⟨h, good_of_word (List.all_eq_true.mp good_law _ h)⟩)
theorem CtI.mk {l : Launch} {y : MethodName} {cc : ByteArray} {maxL : Nat} {ret : Option FieldType} {fr lo mc ms : Nat} {D : va_G} {cI cZ cW : ClassId} {av : List Value} {ws ro : va_W} {S : Type} {post : Int32 → S → Prop} {W' : S → va_W} (hy : plainName y.cls = true) (hlen : (lg_sl av).length ≤ maxL)
    (body : ∀ (p : Program) (e : Env) (s : State) (m : MethodId) (args : Array Value) (below : List Frame) (meth : Method) (c : Code) (A : Nat → Prop), CX p s m args c cc maxL y.cls D cI cZ cW A → meth.sig.returnType = ret → meth.locks = false → meth.name = y.name → (∀ q ∈ ro, RO D A s q) →
      V p l e (RM fr lo mc ms) s m args below meth c D A maxL 0 0 (MQ below (va_Qi post (QB D A W') A) args s mc ms A) ws 0 (lv_args 0 av) []) : CtI l y cc maxL ret fr lo mc ms D cI cZ cW av ws ro post W' := by
  intro sz
  refine Met.ofW (cc := cc) (maxL := maxL) (ret := ret) hy rfl ?_
  intro p e s m args below meth c s₁ B hml hv
  obtain ⟨rfl, hsz, hE, hP, hD0, hro⟩ := hv
  subst hsz
  have hts : ∀ w ∈ wsL_law, w.before av.toArray s = true := fun w hw => atoms_spec (ws := .code y cc maxL ret :: wsL_law) B.pre w (List.mem_cons_of_mem _ hw)
  have hA : ∀ q : Nat, s.heap.size ≤ q → va_A ws s.heap.size q := fun q h => Or.inr h
  have hl := lv_entry av (n := maxL) hlen
  rw [lg_entry_eq]
  exact body p e s m _ below meth c (va_A ws s.heap.size) ⟨B.exec, B.bytes, hml, findClass_of_methodNamed B.named, hts, hE, hA⟩ B.returns B.notSynchronized (name_of_methodNamed B.named B.method).1 hro s.heap [] _ hP (hD0.self (sz := s.heap.size)) va_S.rf hl
theorem CtL.mk {l : Launch} {y : MethodName} {cc : ByteArray} {maxL : Nat} {ret : Option FieldType} {fr lo mc ms : Nat} {D : va_G} {cI cZ cW : ClassId} {av : List Value} {ws ro : va_W} {S : Type} {post : Int64 → S → Prop} {W' : S → va_W} (hy : plainName y.cls = true) (hlen : (lg_sl av).length ≤ maxL)
    (body : ∀ (p : Program) (e : Env) (s : State) (m : MethodId) (args : Array Value) (below : List Frame) (meth : Method) (c : Code) (A : Nat → Prop), CX p s m args c cc maxL y.cls D cI cZ cW A → meth.sig.returnType = ret → meth.locks = false → meth.name = y.name → (∀ q ∈ ro, RO D A s q) →
      V p l e (RM fr lo mc ms) s m args below meth c D A maxL 0 0 (MQ below (va_Ql post (QB D A W') A) args s mc ms A) ws 0 (lv_args 0 av) []) : CtL l y cc maxL ret fr lo mc ms D cI cZ cW av ws ro post W' := by
  intro sz
  refine Met.ofW (cc := cc) (maxL := maxL) (ret := ret) hy rfl ?_
  intro p e s m args below meth c s₁ B hml hv
  obtain ⟨rfl, hsz, hE, hP, hD0, hro⟩ := hv
  subst hsz
  have hts : ∀ w ∈ wsL_law, w.before av.toArray s = true := fun w hw => atoms_spec (ws := .code y cc maxL ret :: wsL_law) B.pre w (List.mem_cons_of_mem _ hw)
  have hA : ∀ q : Nat, s.heap.size ≤ q → va_A ws s.heap.size q := fun q h => Or.inr h
  have hl := lv_entry av (n := maxL) hlen
  rw [lg_entry_eq]
  exact body p e s m _ below meth c (va_A ws s.heap.size) ⟨B.exec, B.bytes, hml, findClass_of_methodNamed B.named, hts, hE, hA⟩ B.returns B.notSynchronized (name_of_methodNamed B.named B.method).1 hro s.heap [] _ hP (hD0.self (sz := s.heap.size)) va_S.rf hl
theorem CtV.mk {l : Launch} {y : MethodName} {cc : ByteArray} {maxL : Nat} {ret : Option FieldType} {fr lo mc ms : Nat} {D : va_G} {cI cZ cW : ClassId} {av : List Value} {ws ro : va_W} {S : Type} {post : S → Prop} {W' : S → va_W} (hy : plainName y.cls = true) (hlen : (lg_sl av).length ≤ maxL)
    (body : ∀ (p : Program) (e : Env) (s : State) (m : MethodId) (args : Array Value) (below : List Frame) (meth : Method) (c : Code) (A : Nat → Prop), CX p s m args c cc maxL y.cls D cI cZ cW A → meth.sig.returnType = ret → meth.locks = false → meth.name = y.name → (∀ q ∈ ro, RO D A s q) →
      V p l e (RM fr lo mc ms) s m args below meth c D A maxL 0 0 (MQ below (va_Qv post (QB D A W') A) args s mc ms A) ws 0 (lv_args 0 av) []) : CtV l y cc maxL ret fr lo mc ms D cI cZ cW av ws ro post W' := by
  intro sz
  refine Met.ofW (cc := cc) (maxL := maxL) (ret := ret) hy rfl ?_
  intro p e s m args below meth c s₁ B hml hv
  obtain ⟨rfl, hsz, hE, hP, hD0, hro⟩ := hv
  subst hsz
  have hts : ∀ w ∈ wsL_law, w.before av.toArray s = true := fun w hw => atoms_spec (ws := .code y cc maxL ret :: wsL_law) B.pre w (List.mem_cons_of_mem _ hw)
  have hA : ∀ q : Nat, s.heap.size ≤ q → va_A ws s.heap.size q := fun q h => Or.inr h
  have hl := lv_entry av (n := maxL) hlen
  rw [lg_entry_eq]
  exact body p e s m _ below meth c (va_A ws s.heap.size) ⟨B.exec, B.bytes, hml, findClass_of_methodNamed B.named, hts, hE, hA⟩ B.returns B.notSynchronized (name_of_methodNamed B.named B.method).1 hro s.heap [] _ hP (hD0.self (sz := s.heap.size)) va_S.rf hl
theorem va_P.places {D : va_G} {ws wc : va_W} {H : Heap} (isC : List Nat) (hC : isC.map (fun i => ws[i]?) = wc.map some) (hP : va_P D vwCl ws H) : va_P D vwCl wc H := by
  intro k x hx
  have h1 : (isC.map (fun i => ws[i]?))[k]? = some (some x) := by rw [hC, List.getElem?_map, hx]; rfl
  rw [List.getElem?_map] at h1
  cases hi : isC[k]? with
  | none => rw [hi] at h1; cases h1
  | some i => rw [hi] at h1; exact hP i x (Option.some.inj h1)
theorem va_D.placesT {A : Nat → Prop} {ws wc : va_W} (isC : List Nat) (hnd : va_nd isC = true) (hC : isC.map (fun i => ws[i]?) = wc.map some) (hD : va_D A ws) : va_D (fun _ => True) wc := (hD.sub isC hnd hC).weaken (fun _ _ _ _ => trivial)
section RULES3
variable {p : Program} {l : Launch} {e : Env} {R : Room} {s : State} {m : MethodId} {args : Array Value} {below : List Frame} {meth : Method} {c : Code} {D : va_G} {A : Nat → Prop} {nL cells slots : Nat} {Q : State → Prop} {ws : va_W} {pc : Nat} {lv : List (Nat × Value)} {st : List Value}
variable {cc : ByteArray} {own : String} {cI cZ cW : ClassId}
theorem r_iret (hc : CX p s m args c cc nL own D cI cZ cW A) {S : Type} {post : Int32 → S → Prop} {W' : S → va_W} {r : Int32} (hr : meth.sig.returnType = some .int) (hlk : meth.locks = false) (u : S) (hp : post r u) (hw : ws = W' u) (hdg : decode cc pc = .ok (.ireturn, 1)) : V p l e R s m args below meth c D A nL cells slots (MQ below (va_Qi post (QB D A W') A) args s cells slots A) ws pc lv [.int r] :=
  fun H locs ls hP hD hS hL => W.iret (v := r) hc.1 hc.2.1 hr (fun t ht hW => ⟨⟨r, u, rfl, hp, by rw [ht, ← hw]; exact hP, by rw [← hw]; exact hD⟩, hS.F ht⟩) hS.2.2 hdg hlk
theorem r_zret (hc : CX p s m args c cc nL own D cI cZ cW A) {S : Type} {post : Int32 → S → Prop} {W' : S → va_W} {b : Bool} (hr : meth.sig.returnType = some .boolean) (hlk : meth.locks = false) (u : S) (hp : post (zI b) u) (hw : ws = W' u) (hdg : decode cc pc = .ok (.ireturn, 1)) : V p l e R s m args below meth c D A nL cells slots (MQ below (va_Qi post (QB D A W') A) args s cells slots A) ws pc lv [.int (zI b)] :=
  fun H locs ls hP hD hS hL => W.zret (v := zI b) hc.1 hc.2.1 hr (nz_bool b) (fun t ht hW => ⟨⟨zI b, u, rfl, hp, by rw [ht, ← hw]; exact hP, by rw [← hw]; exact hD⟩, hS.F ht⟩) hS.2.2 hdg hlk
theorem r_lret (hc : CX p s m args c cc nL own D cI cZ cW A) {S : Type} {post : Int64 → S → Prop} {W' : S → va_W} {r : Int64} (hr : meth.sig.returnType = some .long) (hlk : meth.locks = false) (u : S) (hp : post r u) (hw : ws = W' u) (hdg : decode cc pc = .ok (.lreturn, 1)) : V p l e R s m args below meth c D A nL cells slots (MQ below (va_Ql post (QB D A W') A) args s cells slots A) ws pc lv [.long r] :=
  fun H locs ls hP hD hS hL => W.lret (v := r) hc.1 hc.2.1 hr (fun t ht hW => ⟨⟨r, u, rfl, hp, by rw [ht, ← hw]; exact hP, by rw [← hw]; exact hD⟩, hS.F ht⟩) hS.2.2 hdg hlk
theorem r_vret (hc : CX p s m args c cc nL own D cI cZ cW A) {S : Type} {post : S → Prop} {W' : S → va_W} (hr : meth.sig.returnType = none) (hlk : meth.locks = false) (u : S) (hp : post u) (hw : ws = W' u) (hdg : decode cc pc = .ok (.return_, 1)) : V p l e R s m args below meth c D A nL cells slots (MQ below (va_Qv post (QB D A W') A) args s cells slots A) ws pc lv [] :=
  fun H locs ls hP hD hS hL => W.vret hc.1 hc.2.1 hr (fun t ht hW => ⟨⟨u, rfl, hp, by rw [ht, ← hw]; exact hP, by rw [← hw]; exact hD⟩, hS.F ht⟩) hS.2.2 hdg hlk
/-- the callee's cells that are only read -/
theorem ro_ok {wc wr : va_W} {H : Heap} {locs : List Loc} (isC isR : List Nat) (hC : isC.map (fun i => ws[i]?) = wc.map some) (hP : va_P D vwCl ws H) (hD : va_D A ws) (hS : va_S A s.heap H locs) (hA : ∀ q, s.heap.size ≤ q → A q) {rc : va_W} (hro : ∀ q ∈ rc, (∃ k : Nat, ws[k]? = some q ∧ k ∉ isC) ∨ RO D A s q) : ∀ q ∈ rc, va_at D vwCl q H ∧ ¬ va_A wc H.size q.1 := by
  intro q hq
  have at' : ∀ (k : Nat) (x : Nat × va_E), wc[k]? = some x → ∃ i, isC[k]? = some i ∧ ws[i]? = some x := by
    intro k x hx
    have h1 : (isC.map (fun i => ws[i]?))[k]? = some (some x) := by rw [hC, List.getElem?_map, hx]; rfl
    rw [List.getElem?_map] at h1
    cases hi : isC[k]? with
    | none => rw [hi] at h1; cases h1
    | some i => rw [hi] at h1; exact ⟨i, rfl, Option.some.inj h1⟩
  rcases hro q hq with ⟨k, hk, hn⟩ | hr
  · have ha := hP k q hk
    refine ⟨ha, fun h => ?_⟩
    rcases h with ⟨k2, e, h⟩ | h
    · obtain ⟨i, h3, h4⟩ := at' k2 (q.1, e) h
      have := hD.1 k i q (q.1, e) hk h4 rfl
      subst this
      exact hn (List.mem_of_getElem? h3)
    · exact absurd ha.lt (Nat.not_lt.mpr h)
  · have ha : va_at D vwCl q H := hr.1.kept (hS.2.1 _ hr.1.lt hr.2)
    refine ⟨ha, fun h => ?_⟩
    rcases h with ⟨k2, e, h⟩ | h
    · obtain ⟨i, h3, h4⟩ := at' k2 (q.1, e) h
      exact hr.2 (hD.2 i (q.1, e) h4)
    · exact absurd ha.lt (Nat.not_lt.mpr h)
theorem rv_ok {H : Heap} {locs : List Loc} {b ci : Nat} {qc : vw_C} (hE : EV D cI cZ cW s) (hP : va_P D vwCl ws H) (hS : va_S A s.heap H locs) (hcl : vwCl[ci]? = some qc) (hrv : (∃ (k : Nat) (fs : List Value), ws[k]? = some (b, Sum.inr (ci, fs))) ∨ ∃ fs : List Value, RO D A s (b, Sum.inr (ci, fs))) : ∃ cell : Cell, H[b]? = some cell ∧ cell.vm.isStatics = false ∧ s.vm.findClass qc.1 = some cell.cls := by
  rcases hrv with ⟨k, fs, hk⟩ | ⟨fs, hr⟩
  · exact va_recv hE.1 hP hcl hk
  · exact va_recv hE.1 (hr.at hS) hcl (q0 := 0) rfl
/-- a call of a method of an object -/
theorem r_callI (hc : CX p s m args c cc nL own D cI cZ cW A) {y : MethodName} {cc' : ByteArray} {maxL' fr lo mc ms index n : Nat} {ret' : Option FieldType} {As av : List Value} {wc rc wr : va_W} {S : Type} {post : Int32 → S → Prop} {W' : S → va_W} {b ci : Nat} {T : u_T} {N : Nat} (hM : CtI l y cc' maxL' ret' fr lo mc ms D cI cZ cW (.ref b :: As) wc rc post W') (hco : Cond.code y cc' maxL' ret' ∈ wsL_law) (hini : Cond.initialized y.cls ∈ wsL_law) (hml : Cond.methodLink own index y ∈ wsL_law) (hd : y.cls ≠ "java/lang/invoke/MethodHandle" ∧ y.cls ≠ "java/lang/invoke/VarHandle" ∧ (parseMethodDescriptor y.desc).map (fun d => d.parameters.length) = some n) (hn : As.length = n) (hR : fr + 1 ≤ R.frames ∧ 8 + (maxL' + 11) + lo ≤ R.locals) (hcells : cells + mc ≤ R.cells ∧ slots + ms ≤ R.slots) (him : Cond.instanceMethod y ∈ wsL_law) (hse : Cond.selects y.cls y y ∈ wsL_law) (hcl : vwCl[ci]? = some (y.cls, T, N)) (hrv : (∃ (k : Nat) (fs : List Value), ws[k]? = some (b, Sum.inr (ci, fs))) ∨ ∃ fs : List Value, RO D A s (b, Sum.inr (ci, fs))) (hst : As.reverse ++ .ref b :: st = av) (hrm : (st.map fun v => v.category).sum ≤ 8) (isC isR : List Nat) (hC : isC.map (fun i => ws[i]?) = wc.map some) (hRR : isR.map (fun i => ws[i]?) = wr.map some) (hndC : va_nd isC = true) (hnd : va_nd isR = true) (hdis : ∀ i ∈ isR, i ∉ isC) (hro : ∀ q ∈ rc, (∃ k : Nat, ws[k]? = some q ∧ k ∉ isC) ∨ RO D A s q) (hdg : decode cc pc = .ok (.invokevirtual index, 3)) (kk : ∀ (r : Int32) (u : S), post r u → V p l e R s m args below meth c D A nL (cells + mc) (slots + ms) Q (wr ++ W' u) (pc + 3) lv (.int r :: st)) : V p l e R s m args below meth c D A nL cells slots Q ws pc lv av := by
  intro H locs ls hP hD hS hL
  have hts := hc.2.2.2.2.1
  have hF := va_free (wc := wc) hD hS hc.2.2.2.2.2.2 isC hC
  subst hst
  exact va_calli (va_runV (Ts := wsL_law) (own := own) (C := y.cls) (n := n) (As := As) (rest := st) (nL := nL) ⟨hc.1, hc.2.1, hc.2.2.1, hc.2.2.2.1, hts⟩ (hM H.size) ⟨callB_of n hts (wlaw_good hco) rfl rfl rfl (hts _ hini) (hts _ hml) hd hR, hts _ him, hts _ hse⟩ ⟨PC.blind, rv_ok hc.2.2.2.2.2.1 hP hS hcl hrv, fun U hU hW => ⟨rfl, by rw [hU], hc.2.2.2.2.2.1.warm hW, by rw [hU]; exact va_P.places isC hC hP, va_D.placesT isC hndC hC hD, by rw [hU]; exact ro_ok (wr := wr) isC isR hC hP hD hS hc.2.2.2.2.2.2 hro⟩⟩ rfl hn hL.1 rfl (lv_room hrm) hdg hcells) hS (fun q _ h => hF q h) hF
    (fun r u t H1 locs1 ht hvm hw hB hz1 hk1 hS1 => by
      obtain ⟨hP1, hD1⟩ := hB
      rw [ht] at hP1
      obtain ⟨hP2, hD2⟩ := va_join (wr := wr) (w1 := W' u) hP hD isC isR hC hRR hnd hdis hk1 hF hP1 hD1
      exact kk r u hw H1 locs1 ls hP2 hD2 hS1 hL)
/-- a call of a static method -/
theorem r_callsI (hc : CX p s m args c cc nL own D cI cZ cW A) {y : MethodName} {cc' : ByteArray} {maxL' fr lo mc ms index n : Nat} {ret' : Option FieldType} {As av : List Value} {wc rc wr : va_W} {S : Type} {post : Int32 → S → Prop} {W' : S → va_W} (hM : CtI l y cc' maxL' ret' fr lo mc ms D cI cZ cW As wc rc post W') (hco : Cond.code y cc' maxL' ret' ∈ wsL_law) (hini : Cond.initialized y.cls ∈ wsL_law) (hml : Cond.methodLink own index y ∈ wsL_law) (hd : y.cls ≠ "java/lang/invoke/MethodHandle" ∧ y.cls ≠ "java/lang/invoke/VarHandle" ∧ (parseMethodDescriptor y.desc).map (fun d => d.parameters.length) = some n) (hn : As.length = n) (hR : fr + 1 ≤ R.frames ∧ 8 + (maxL' + 11) + lo ≤ R.locals) (hcells : cells + mc ≤ R.cells ∧ slots + ms ≤ R.slots) (hsm : Cond.static y ∈ wsL_law) (hst : As.reverse ++ st = av) (hrm : (st.map fun v => v.category).sum ≤ 8) (isC isR : List Nat) (hC : isC.map (fun i => ws[i]?) = wc.map some) (hRR : isR.map (fun i => ws[i]?) = wr.map some) (hndC : va_nd isC = true) (hnd : va_nd isR = true) (hdis : ∀ i ∈ isR, i ∉ isC) (hro : ∀ q ∈ rc, (∃ k : Nat, ws[k]? = some q ∧ k ∉ isC) ∨ RO D A s q) (hdg : decode cc pc = .ok (.invokestatic index, 3)) (kk : ∀ (r : Int32) (u : S), post r u → V p l e R s m args below meth c D A nL (cells + mc) (slots + ms) Q (wr ++ W' u) (pc + 3) lv (.int r :: st)) : V p l e R s m args below meth c D A nL cells slots Q ws pc lv av := by
  intro H locs ls hP hD hS hL
  have hts := hc.2.2.2.2.1
  have hF := va_free (wc := wc) hD hS hc.2.2.2.2.2.2 isC hC
  subst hst
  exact va_calli (va_runS (Ts := wsL_law) (own := own) (n := n) (As := As) (rest := st) (nL := nL) ⟨hc.1, hc.2.1, hc.2.2.1, hc.2.2.2.1, hts⟩ (hM H.size) ⟨callB_of n hts (wlaw_good hco) rfl rfl rfl (hts _ hini) (hts _ hml) hd hR, hts _ hsm⟩ ⟨PC.blind, fun U hU hW => ⟨rfl, by rw [hU], hc.2.2.2.2.2.1.warm hW, by rw [hU]; exact va_P.places isC hC hP, va_D.placesT isC hndC hC hD, by rw [hU]; exact ro_ok (wr := wr) isC isR hC hP hD hS hc.2.2.2.2.2.2 hro⟩⟩ rfl hn hL.1 rfl (lv_room hrm) hdg hcells) hS (fun q _ h => hF q h) hF
    (fun r u t H1 locs1 ht hvm hw hB hz1 hk1 hS1 => by
      obtain ⟨hP1, hD1⟩ := hB
      rw [ht] at hP1
      obtain ⟨hP2, hD2⟩ := va_join (wr := wr) (w1 := W' u) hP hD isC isR hC hRR hnd hdis hk1 hF hP1 hD1
      exact kk r u hw H1 locs1 ls hP2 hD2 hS1 hL)
/-- a call of a method of an object -/
theorem r_callL (hc : CX p s m args c cc nL own D cI cZ cW A) {y : MethodName} {cc' : ByteArray} {maxL' fr lo mc ms index n : Nat} {ret' : Option FieldType} {As av : List Value} {wc rc wr : va_W} {S : Type} {post : Int64 → S → Prop} {W' : S → va_W} {b ci : Nat} {T : u_T} {N : Nat} (hM : CtL l y cc' maxL' ret' fr lo mc ms D cI cZ cW (.ref b :: As) wc rc post W') (hco : Cond.code y cc' maxL' ret' ∈ wsL_law) (hini : Cond.initialized y.cls ∈ wsL_law) (hml : Cond.methodLink own index y ∈ wsL_law) (hd : y.cls ≠ "java/lang/invoke/MethodHandle" ∧ y.cls ≠ "java/lang/invoke/VarHandle" ∧ (parseMethodDescriptor y.desc).map (fun d => d.parameters.length) = some n) (hn : As.length = n) (hR : fr + 1 ≤ R.frames ∧ 8 + (maxL' + 11) + lo ≤ R.locals) (hcells : cells + mc ≤ R.cells ∧ slots + ms ≤ R.slots) (him : Cond.instanceMethod y ∈ wsL_law) (hse : Cond.selects y.cls y y ∈ wsL_law) (hcl : vwCl[ci]? = some (y.cls, T, N)) (hrv : (∃ (k : Nat) (fs : List Value), ws[k]? = some (b, Sum.inr (ci, fs))) ∨ ∃ fs : List Value, RO D A s (b, Sum.inr (ci, fs))) (hst : As.reverse ++ .ref b :: st = av) (hrm : (st.map fun v => v.category).sum ≤ 8) (isC isR : List Nat) (hC : isC.map (fun i => ws[i]?) = wc.map some) (hRR : isR.map (fun i => ws[i]?) = wr.map some) (hndC : va_nd isC = true) (hnd : va_nd isR = true) (hdis : ∀ i ∈ isR, i ∉ isC) (hro : ∀ q ∈ rc, (∃ k : Nat, ws[k]? = some q ∧ k ∉ isC) ∨ RO D A s q) (hdg : decode cc pc = .ok (.invokevirtual index, 3)) (kk : ∀ (r : Int64) (u : S), post r u → V p l e R s m args below meth c D A nL (cells + mc) (slots + ms) Q (wr ++ W' u) (pc + 3) lv (.long r :: st)) : V p l e R s m args below meth c D A nL cells slots Q ws pc lv av := by
  intro H locs ls hP hD hS hL
  have hts := hc.2.2.2.2.1
  have hF := va_free (wc := wc) hD hS hc.2.2.2.2.2.2 isC hC
  subst hst
  exact va_calll (va_runV (Ts := wsL_law) (own := own) (C := y.cls) (n := n) (As := As) (rest := st) (nL := nL) ⟨hc.1, hc.2.1, hc.2.2.1, hc.2.2.2.1, hts⟩ (hM H.size) ⟨callB_of n hts (wlaw_good hco) rfl rfl rfl (hts _ hini) (hts _ hml) hd hR, hts _ him, hts _ hse⟩ ⟨PC.blind, rv_ok hc.2.2.2.2.2.1 hP hS hcl hrv, fun U hU hW => ⟨rfl, by rw [hU], hc.2.2.2.2.2.1.warm hW, by rw [hU]; exact va_P.places isC hC hP, va_D.placesT isC hndC hC hD, by rw [hU]; exact ro_ok (wr := wr) isC isR hC hP hD hS hc.2.2.2.2.2.2 hro⟩⟩ rfl hn hL.1 rfl (lv_room hrm) hdg hcells) hS (fun q _ h => hF q h) hF
    (fun r u t H1 locs1 ht hvm hw hB hz1 hk1 hS1 => by
      obtain ⟨hP1, hD1⟩ := hB
      rw [ht] at hP1
      obtain ⟨hP2, hD2⟩ := va_join (wr := wr) (w1 := W' u) hP hD isC isR hC hRR hnd hdis hk1 hF hP1 hD1
      exact kk r u hw H1 locs1 ls hP2 hD2 hS1 hL)
/-- a call of a static method -/
theorem r_callsL (hc : CX p s m args c cc nL own D cI cZ cW A) {y : MethodName} {cc' : ByteArray} {maxL' fr lo mc ms index n : Nat} {ret' : Option FieldType} {As av : List Value} {wc rc wr : va_W} {S : Type} {post : Int64 → S → Prop} {W' : S → va_W} (hM : CtL l y cc' maxL' ret' fr lo mc ms D cI cZ cW As wc rc post W') (hco : Cond.code y cc' maxL' ret' ∈ wsL_law) (hini : Cond.initialized y.cls ∈ wsL_law) (hml : Cond.methodLink own index y ∈ wsL_law) (hd : y.cls ≠ "java/lang/invoke/MethodHandle" ∧ y.cls ≠ "java/lang/invoke/VarHandle" ∧ (parseMethodDescriptor y.desc).map (fun d => d.parameters.length) = some n) (hn : As.length = n) (hR : fr + 1 ≤ R.frames ∧ 8 + (maxL' + 11) + lo ≤ R.locals) (hcells : cells + mc ≤ R.cells ∧ slots + ms ≤ R.slots) (hsm : Cond.static y ∈ wsL_law) (hst : As.reverse ++ st = av) (hrm : (st.map fun v => v.category).sum ≤ 8) (isC isR : List Nat) (hC : isC.map (fun i => ws[i]?) = wc.map some) (hRR : isR.map (fun i => ws[i]?) = wr.map some) (hndC : va_nd isC = true) (hnd : va_nd isR = true) (hdis : ∀ i ∈ isR, i ∉ isC) (hro : ∀ q ∈ rc, (∃ k : Nat, ws[k]? = some q ∧ k ∉ isC) ∨ RO D A s q) (hdg : decode cc pc = .ok (.invokestatic index, 3)) (kk : ∀ (r : Int64) (u : S), post r u → V p l e R s m args below meth c D A nL (cells + mc) (slots + ms) Q (wr ++ W' u) (pc + 3) lv (.long r :: st)) : V p l e R s m args below meth c D A nL cells slots Q ws pc lv av := by
  intro H locs ls hP hD hS hL
  have hts := hc.2.2.2.2.1
  have hF := va_free (wc := wc) hD hS hc.2.2.2.2.2.2 isC hC
  subst hst
  exact va_calll (va_runS (Ts := wsL_law) (own := own) (n := n) (As := As) (rest := st) (nL := nL) ⟨hc.1, hc.2.1, hc.2.2.1, hc.2.2.2.1, hts⟩ (hM H.size) ⟨callB_of n hts (wlaw_good hco) rfl rfl rfl (hts _ hini) (hts _ hml) hd hR, hts _ hsm⟩ ⟨PC.blind, fun U hU hW => ⟨rfl, by rw [hU], hc.2.2.2.2.2.1.warm hW, by rw [hU]; exact va_P.places isC hC hP, va_D.placesT isC hndC hC hD, by rw [hU]; exact ro_ok (wr := wr) isC isR hC hP hD hS hc.2.2.2.2.2.2 hro⟩⟩ rfl hn hL.1 rfl (lv_room hrm) hdg hcells) hS (fun q _ h => hF q h) hF
    (fun r u t H1 locs1 ht hvm hw hB hz1 hk1 hS1 => by
      obtain ⟨hP1, hD1⟩ := hB
      rw [ht] at hP1
      obtain ⟨hP2, hD2⟩ := va_join (wr := wr) (w1 := W' u) hP hD isC isR hC hRR hnd hdis hk1 hF hP1 hD1
      exact kk r u hw H1 locs1 ls hP2 hD2 hS1 hL)
/-- a call of a method of an object -/
theorem r_callV (hc : CX p s m args c cc nL own D cI cZ cW A) {y : MethodName} {cc' : ByteArray} {maxL' fr lo mc ms index n : Nat} {ret' : Option FieldType} {As av : List Value} {wc rc wr : va_W} {S : Type} {post : S → Prop} {W' : S → va_W} {b ci : Nat} {T : u_T} {N : Nat} (hM : CtV l y cc' maxL' ret' fr lo mc ms D cI cZ cW (.ref b :: As) wc rc post W') (hco : Cond.code y cc' maxL' ret' ∈ wsL_law) (hini : Cond.initialized y.cls ∈ wsL_law) (hml : Cond.methodLink own index y ∈ wsL_law) (hd : y.cls ≠ "java/lang/invoke/MethodHandle" ∧ y.cls ≠ "java/lang/invoke/VarHandle" ∧ (parseMethodDescriptor y.desc).map (fun d => d.parameters.length) = some n) (hn : As.length = n) (hR : fr + 1 ≤ R.frames ∧ 8 + (maxL' + 11) + lo ≤ R.locals) (hcells : cells + mc ≤ R.cells ∧ slots + ms ≤ R.slots) (him : Cond.instanceMethod y ∈ wsL_law) (hse : Cond.selects y.cls y y ∈ wsL_law) (hcl : vwCl[ci]? = some (y.cls, T, N)) (hrv : (∃ (k : Nat) (fs : List Value), ws[k]? = some (b, Sum.inr (ci, fs))) ∨ ∃ fs : List Value, RO D A s (b, Sum.inr (ci, fs))) (hst : As.reverse ++ .ref b :: st = av) (hrm : (st.map fun v => v.category).sum ≤ 8) (isC isR : List Nat) (hC : isC.map (fun i => ws[i]?) = wc.map some) (hRR : isR.map (fun i => ws[i]?) = wr.map some) (hndC : va_nd isC = true) (hnd : va_nd isR = true) (hdis : ∀ i ∈ isR, i ∉ isC) (hro : ∀ q ∈ rc, (∃ k : Nat, ws[k]? = some q ∧ k ∉ isC) ∨ RO D A s q) (hdg : decode cc pc = .ok (.invokevirtual index, 3)) (kk : ∀ (u : S), post u → V p l e R s m args below meth c D A nL (cells + mc) (slots + ms) Q (wr ++ W' u) (pc + 3) lv (st)) : V p l e R s m args below meth c D A nL cells slots Q ws pc lv av := by
  intro H locs ls hP hD hS hL
  have hts := hc.2.2.2.2.1
  have hF := va_free (wc := wc) hD hS hc.2.2.2.2.2.2 isC hC
  subst hst
  exact va_callv (va_runV (Ts := wsL_law) (own := own) (C := y.cls) (n := n) (As := As) (rest := st) (nL := nL) ⟨hc.1, hc.2.1, hc.2.2.1, hc.2.2.2.1, hts⟩ (hM H.size) ⟨callB_of n hts (wlaw_good hco) rfl rfl rfl (hts _ hini) (hts _ hml) hd hR, hts _ him, hts _ hse⟩ ⟨PC.blind, rv_ok hc.2.2.2.2.2.1 hP hS hcl hrv, fun U hU hW => ⟨rfl, by rw [hU], hc.2.2.2.2.2.1.warm hW, by rw [hU]; exact va_P.places isC hC hP, va_D.placesT isC hndC hC hD, by rw [hU]; exact ro_ok (wr := wr) isC isR hC hP hD hS hc.2.2.2.2.2.2 hro⟩⟩ rfl hn hL.1 rfl (lv_room hrm) hdg hcells) hS (fun q _ h => hF q h) hF
    (fun u t H1 locs1 ht hvm hw hB hz1 hk1 hS1 => by
      obtain ⟨hP1, hD1⟩ := hB
      rw [ht] at hP1
      obtain ⟨hP2, hD2⟩ := va_join (wr := wr) (w1 := W' u) hP hD isC isR hC hRR hnd hdis hk1 hF hP1 hD1
      exact kk u hw H1 locs1 ls hP2 hD2 hS1 hL)
/-- a call of a static method -/
theorem r_callsV (hc : CX p s m args c cc nL own D cI cZ cW A) {y : MethodName} {cc' : ByteArray} {maxL' fr lo mc ms index n : Nat} {ret' : Option FieldType} {As av : List Value} {wc rc wr : va_W} {S : Type} {post : S → Prop} {W' : S → va_W} (hM : CtV l y cc' maxL' ret' fr lo mc ms D cI cZ cW As wc rc post W') (hco : Cond.code y cc' maxL' ret' ∈ wsL_law) (hini : Cond.initialized y.cls ∈ wsL_law) (hml : Cond.methodLink own index y ∈ wsL_law) (hd : y.cls ≠ "java/lang/invoke/MethodHandle" ∧ y.cls ≠ "java/lang/invoke/VarHandle" ∧ (parseMethodDescriptor y.desc).map (fun d => d.parameters.length) = some n) (hn : As.length = n) (hR : fr + 1 ≤ R.frames ∧ 8 + (maxL' + 11) + lo ≤ R.locals) (hcells : cells + mc ≤ R.cells ∧ slots + ms ≤ R.slots) (hsm : Cond.static y ∈ wsL_law) (hst : As.reverse ++ st = av) (hrm : (st.map fun v => v.category).sum ≤ 8) (isC isR : List Nat) (hC : isC.map (fun i => ws[i]?) = wc.map some) (hRR : isR.map (fun i => ws[i]?) = wr.map some) (hndC : va_nd isC = true) (hnd : va_nd isR = true) (hdis : ∀ i ∈ isR, i ∉ isC) (hro : ∀ q ∈ rc, (∃ k : Nat, ws[k]? = some q ∧ k ∉ isC) ∨ RO D A s q) (hdg : decode cc pc = .ok (.invokestatic index, 3)) (kk : ∀ (u : S), post u → V p l e R s m args below meth c D A nL (cells + mc) (slots + ms) Q (wr ++ W' u) (pc + 3) lv (st)) : V p l e R s m args below meth c D A nL cells slots Q ws pc lv av := by
  intro H locs ls hP hD hS hL
  have hts := hc.2.2.2.2.1
  have hF := va_free (wc := wc) hD hS hc.2.2.2.2.2.2 isC hC
  subst hst
  exact va_callv (va_runS (Ts := wsL_law) (own := own) (n := n) (As := As) (rest := st) (nL := nL) ⟨hc.1, hc.2.1, hc.2.2.1, hc.2.2.2.1, hts⟩ (hM H.size) ⟨callB_of n hts (wlaw_good hco) rfl rfl rfl (hts _ hini) (hts _ hml) hd hR, hts _ hsm⟩ ⟨PC.blind, fun U hU hW => ⟨rfl, by rw [hU], hc.2.2.2.2.2.1.warm hW, by rw [hU]; exact va_P.places isC hC hP, va_D.placesT isC hndC hC hD, by rw [hU]; exact ro_ok (wr := wr) isC isR hC hP hD hS hc.2.2.2.2.2.2 hro⟩⟩ rfl hn hL.1 rfl (lv_room hrm) hdg hcells) hS (fun q _ h => hF q h) hF
    (fun u t H1 locs1 ht hvm hw hB hz1 hk1 hS1 => by
      obtain ⟨hP1, hD1⟩ := hB
      rw [ht] at hP1
      obtain ⟨hP2, hD2⟩ := va_join (wr := wr) (w1 := W' u) hP hD isC isR hC hRR hnd hdis hk1 hF hP1 hD1
      exact kk u hw H1 locs1 ls hP2 hD2 hS1 hL)
theorem r_ldc (hc : CX p s m args c cc nL own D cI cZ cW A) {index : Nat} {v : Int32} (hcn : Cond.constant own index v ∈ wsL_law) (hdg : decode cc pc = .ok (.ldc index, 2)) (kk : V p l e R s m args below meth c D A nL cells slots Q ws (pc + 2) lv (.int v :: st)) : V p l e R s m args below meth c D A nL cells slots Q ws pc lv st :=
  fun H locs ls hP hD hS hL => lv_ldc hc.1 hc.2.1 hc.2.2.2.1 (hc.2.2.2.2.1 _ hcn) hdg (kk H locs ls hP hD hS hL)
theorem nI_z {a : Nat} (h : a < 2 ^ 31) : nI a = 0 ↔ a = 0 := by rw [← nI_0]; exact nI_eq h (by decide)
theorem n_if_eq (hc : CX p s m args c cc nL own D cI cZ cW A) {a : Nat} {off : Int} (tgt : Nat) (hdg : decode cc pc = .ok (.ifCond .eq off, 3)) (ht : (pc : Int) + off = (tgt : Int)) (ha : a < 2 ^ 31) (kt : a = 0 → V p l e R s m args below meth c D A nL cells slots Q ws tgt lv st) (kf : a ≠ 0 → V p l e R s m args below meth c D A nL cells slots Q ws (pc + 3) lv st) : V p l e R s m args below meth c D A nL cells slots Q ws pc lv (.int (nI a) :: st) := r_if_eq hc tgt hdg ht (fun h => kt ((nI_z ha).mp h)) (fun h => kf (fun q => h ((nI_z ha).mpr q)))
theorem n_if_ne (hc : CX p s m args c cc nL own D cI cZ cW A) {a : Nat} {off : Int} (tgt : Nat) (hdg : decode cc pc = .ok (.ifCond .ne off, 3)) (ht : (pc : Int) + off = (tgt : Int)) (ha : a < 2 ^ 31) (kt : a ≠ 0 → V p l e R s m args below meth c D A nL cells slots Q ws tgt lv st) (kf : a = 0 → V p l e R s m args below meth c D A nL cells slots Q ws (pc + 3) lv st) : V p l e R s m args below meth c D A nL cells slots Q ws pc lv (.int (nI a) :: st) := r_if_ne hc tgt hdg ht (fun h => kt (fun q => h ((nI_z ha).mpr q))) (fun h => kf ((nI_z ha).mp h))
theorem n_if_le (hc : CX p s m args c cc nL own D cI cZ cW A) {a : Nat} {off : Int} (tgt : Nat) (hdg : decode cc pc = .ok (.ifCond .le off, 3)) (ht : (pc : Int) + off = (tgt : Int)) (ha : a < 2 ^ 31) (kt : a = 0 → V p l e R s m args below meth c D A nL cells slots Q ws tgt lv st) (kf : 0 < a → V p l e R s m args below meth c D A nL cells slots Q ws (pc + 3) lv st) : V p l e R s m args below meth c D A nL cells slots Q ws pc lv (.int (nI a) :: st) := r_if_le hc tgt hdg ht (fun h => kt (Nat.eq_zero_of_not_pos fun q => nI_nle q ha h)) (fun h => kf (Nat.pos_of_ne_zero fun q => h (by rw [q, nI_0]; exact Int32.le_refl 0)))
end RULES3
