/-! rules that make cells -/
section RULES7
variable {p : Program} {l : Launch} {e : Env} {R : Room} {s : State} {m : MethodId} {args : Array Value} {below : List Frame} {meth : Method} {c : Code} {D : va_G} {A : Nat → Prop} {nL cells slots : Nat} {Q : State → Prop} {ws : va_W} {pc : Nat} {lv : List (Nat × Value)} {st : List Value}
variable {cc : ByteArray} {own : String} {cI cZ cW : ClassId}
theorem r_new (hc : CX p s m args c cc nL own D cI cZ cW A) {C : String} {T : u_T} {N ci index : Nat} {fs : List Value} (hin : ∀ w ∈ u_ws C T N, w ∈ wsL_law) (ty : Nat → FieldType) (hty : ∀ k, k < N → parseFieldDescriptor (T k).2.2.1 = some (ty k)) (hcl : Cond.classLink own index C ∈ wsL_law) (hit : Cond.instantiable C N ∈ wsL_law) (hini : Cond.initialized C ∈ wsL_law) (hci : vwCl[ci]? = some (C, T, N)) (hfs : ∀ j, j < N → defaultValue (ty j) = vp_V fs j) (hcells : cells + 1 ≤ R.cells) (hslots : slots + N ≤ R.slots) (hdg : decode cc pc = .ok (.new index, 3)) (kk : ∀ q : Nat, V p l e R s m args below meth c D A nL (cells + 1) (slots + N) Q (ws ++ [(q, .inr (ci, fs))]) (pc + 3) lv (.ref q :: st)) : V p l e R s m args below meth c D A nL cells slots Q ws pc lv st :=
  fun H locs ls hP hD hS hL => va_new hc.1 hc.2.1 hc.2.2.2.2.1 hin ty hty hc.2.2.2.1 (hc.2.2.2.2.1 _ hcl) (hc.2.2.2.2.1 _ hit) (hc.2.2.2.2.1 _ hini) hc.2.2.2.2.2.1.1 hP hD hS hc.2.2.2.2.2.2 hci hfs hcells hslots hdg (fun q H1 hP1 hD1 hS1 => kk q H1 locs ls hP1 hD1 hS1 hL)
theorem tyI_eq {cA : ClassId} (h0 : va_K D vwCl (ty3 cI cZ cW) s) (h : va_K D vwCl (ty3 cI cZ cW ++ [(cA, .int)]) s) : cA = cI := Option.some.inj ((h.2 3 _ rfl).2.symm.trans (h0.2 0 _ rfl).2)
theorem tyZ_eq {cA : ClassId} (h0 : va_K D vwCl (ty3 cI cZ cW) s) (h : va_K D vwCl (ty3 cI cZ cW ++ [(cA, .boolean)]) s) : cA = cZ := Option.some.inj ((h.2 3 _ rfl).2.symm.trans (h0.2 1 _ rfl).2)
theorem tyW_eq {cA : ClassId} (h0 : va_K D vwCl (ty3 cI cZ cW) s) (h : va_K D vwCl (ty3 cI cZ cW ++ [(cA, .object "CosetTable$Word")]) s) : cA = cW := by
  obtain ⟨k1, c1, -, -, -, e1⟩ := (h.2 3 _ rfl).2
  obtain ⟨k2, c2, -, -, -, e2⟩ := (h0.2 2 _ rfl).2
  exact Option.some.inj (e1.symm.trans e2)
theorem r_newI (hc : CX p s m args c cc nL own D cI cZ cW A) {α : Type} (kf : α → Int32) (z : α) (hz : kf z = 0) {n : Nat} (hn : n < 2 ^ 27) (hcells : cells + 1 ≤ R.cells) (hslots : slots + n ≤ R.slots) (hdg : decode cc pc = .ok (.newarray .int, 2)) (kk : ∀ q : Nat, V p l e R s m args below meth c D A nL (cells + 1) (slots + n) Q (ws ++ [(q, .inl (cI, n, .inl (fun j => kf ((fun _ => z) j))))]) (pc + 2) lv (.ref q :: st)) : V p l e R s m args below meth c D A nL cells slots Q ws pc lv (.int (nI n) :: st) :=
  fun H locs ls hP hD hS hL => va_newa (atype := .int) (ty := .int) (a0 := (n, .inl (fun j => kf ((fun _ => z) j)))) hc.1 hc.2.1 (hc.2.2.2.2.1 _ ac_int) rfl hc.2.2.2.2.2.1.1 hP hD hS hc.2.2.2.2.2.2 (fun cA => by rw [vp_cell_i]; show arrV cA n (fun _ => .int (kf z)) = _; rw [hz]; rfl) (nI_pos (by omega)) (nI_clamp (by omega)) (by show n * 4 ≤ _; omega) hcells hslots hdg (fun q cA H1 hK1 hP1 hD1 hS1 => by
    obtain rfl := tyI_eq hc.2.2.2.2.2.1.1 hK1
    exact kk q H1 locs ls hP1 hD1 hS1 hL)
theorem r_newZ (hc : CX p s m args c cc nL own D cI cZ cW A) {n : Nat} (hn : n < 2 ^ 27) (hcells : cells + 1 ≤ R.cells) (hslots : slots + n ≤ R.slots) (hdg : decode cc pc = .ok (.newarray .boolean, 2)) (kk : ∀ q : Nat, V p l e R s m args below meth c D A nL (cells + 1) (slots + n) Q (ws ++ [(q, .inl (cZ, n, .inl (fun j => zI ((fun _ => false) j))))]) (pc + 2) lv (.ref q :: st)) : V p l e R s m args below meth c D A nL cells slots Q ws pc lv (.int (nI n) :: st) :=
  fun H locs ls hP hD hS hL => va_newa (atype := .boolean) (ty := .boolean) (a0 := (n, .inl (fun j => zI ((fun _ => false) j)))) hc.1 hc.2.1 (hc.2.2.2.2.1 _ ac_boolean) rfl hc.2.2.2.2.2.1.1 hP hD hS hc.2.2.2.2.2.2 (fun cA => rfl) (nI_pos (by omega)) (nI_clamp (by omega)) (by show n * 1 ≤ _; omega) hcells hslots hdg (fun q cA H1 hK1 hP1 hD1 hS1 => by
    obtain rfl := tyZ_eq hc.2.2.2.2.2.1.1 hK1
    exact kk q H1 locs ls hP1 hD1 hS1 hL)
theorem r_newW (hc : CX p s m args c cc nL own D cI cZ cW A) {index n : Nat} (hn : n < 2 ^ 27) (hcl : Cond.classLink own index "CosetTable$Word" ∈ wsL_law) (hcells : cells + 1 ≤ R.cells) (hslots : slots + n ≤ R.slots) (hdg : decode cc pc = .ok (.anewarray index, 3)) (kk : ∀ q : Nat, V p l e R s m args below meth c D A nL (cells + 1) (slots + n) Q (ws ++ [(q, .inl (cW, n, .inr (.inr (.inr (.inr (fun _ => none))))))]) (pc + 3) lv (.ref q :: st)) : V p l e R s m args below meth c D A nL cells slots Q ws pc lv (.int (nI n) :: st) :=
  fun H locs ls hP hD hS hL => va_newq (C := "CosetTable$Word") hc.1 hc.2.1 hc.2.2.2.1 (hc.2.2.2.2.1 _ hcl) (hc.2.2.2.2.2.1.2 _ ao_Word) hc.2.2.2.2.2.1.1 hP hD hS hc.2.2.2.2.2.2 (nI_pos (by omega)) (nI_clamp (by omega)) (by omega) hcells hslots hdg (fun q cA H1 hK1 hP1 hD1 hS1 => by
    obtain rfl := tyW_eq hc.2.2.2.2.2.1.1 hK1
    exact kk q H1 locs ls hP1 hD1 hS1 hL)
theorem r_ast (hc : CX p s m args c cc nL own D cI cZ cW A) {n i v a : Nat} {vs : List Value} {f : Nat → Option Nat} {ws' : va_W} (q0 qk : Nat) (ha : ws[q0]? = some (a, .inl (cW, n, .inr (.inr (.inr (.inr f)))))) (hv : ws[qk]? = some (v, .inr (3, vs))) (hi : i < n) (hn : n < 2 ^ 31) (hw : ws.set q0 (a, .inl (cW, n, .inr (.inr (.inr (.inr (va_up f i (some v))))))) = ws') (hdg : decode cc pc = .ok (.aastore, 1)) (kk : V p l e R s m args below meth c D A nL cells slots Q ws' (pc + 1) lv st) : V p l e R s m args below meth c D A nL cells slots Q ws pc lv (.ref v :: .int (nI i) :: .ref a :: st) :=
  fun H locs ls hP hD hS hL => va_astq (r := (RX3, TX3, 2)) hc.1 hc.2.1 hc.2.2.2.2.2.1.1 hP hD hS q0 2 qk 3 ha rfl hv rfl (vp_in_nI hi hn) hdg (fun H1 locs1 hP1 hD1 hS1 => by
    rw [nI_clamp (Nat.lt_trans hi hn)] at hP1 hD1
    exact kk H1 locs1 ls (hw ▸ hP1) (hw ▸ hD1) hS1 hL)
theorem r_obj (hc : CX p s m args c cc nL own D cI cZ cW A) {index a : Nat} (hml : Cond.methodLink own index objectInit ∈ wsL_law) (hfr : 1 ≤ R.frames) (hlo : (st.map fun v => v.category).sum + 12 ≤ R.locals) (hdg : decode cc pc = .ok (.invokespecial index, 3)) (kk : V p l e R s m args below meth c D A nL cells slots Q ws (pc + 3) lv st) : V p l e R s m args below meth c D A nL cells slots Q ws pc lv (.ref a :: st) :=
  fun H locs ls hP hD hS hL => W.objInit hc.1 hc.2.1 hc.2.2.2.1 (hc.2.2.2.2.1 _ hml) (hc.2.2.2.2.1 _ im_objectInit) (hc.2.2.2.2.1 _ co_objectInit) rfl (hL.1.trans hc.2.2.1.symm) rfl hdg hfr (by show 2 * 0 + _ + 12 ≤ _; omega) (W.eq (g2 := F0 m (pc + 3) ls st) rfl (kk H locs ls hP hD hS hL))
theorem r_weqP {ws' : va_W} (h : ∀ H, va_P D vwCl ws H → va_P D vwCl ws' H) (hd : va_D A ws → va_D A ws') (kk : V p l e R s m args below meth c D A nL cells slots Q ws' pc lv st) : V p l e R s m args below meth c D A nL cells slots Q ws pc lv st := fun H locs ls hP hD hS hL => kk H locs ls (h H hP) (hd hD) hS hL
/-- the last cells of a world stand for others of the same contents -/
theorem refs_eq {cA : ClassId} {n a : Nat} {f g : Nat → Option Nat} (h : ∀ j, j < n → f j = g j) {H : Heap} (hh : va_at D vwCl (a, .inl (cA, n, .inr (.inr (.inr (.inr f))))) H) : va_at D vwCl (a, .inl (cA, n, .inr (.inr (.inr (.inr g))))) H := by
  show H[a]? = some (vp_cell _ _)
  have h1 : H[a]? = some (vp_cell cA (n, .inr (.inr (.inr (.inr f))))) := hh
  rw [h1]
  show some (arrV cA n (fun j => va_rf (f j))) = some (arrV cA n (fun j => va_rf (g j)))
  have : (Array.ofFn (n := n) fun j => va_rf (f j.val)) = Array.ofFn (n := n) fun j => va_rf (g j.val) := by
    congr 1; funext j; rw [h j.val j.isLt]
  unfold arrV
  rw [this]
theorem set_P {k : Nat} {a : Nat} {x y : va_E} (hk : ws[k]? = some (a, x)) (hxy : ∀ H, va_at D vwCl (a, x) H → va_at D vwCl (a, y) H) {H : Heap} (hP : va_P D vwCl ws H) : va_P D vwCl (ws.set k (a, y)) H := by
  intro j q hq
  by_cases e : k = j
  · subst e
    have hl : k < ws.length := (List.getElem?_eq_some_iff.mp hk).1
    rw [List.getElem?_set_self hl] at hq
    cases hq
    exact hxy H (hP k _ hk)
  · rw [List.getElem?_set_ne e] at hq; exact hP j q hq
end RULES7
theorem r_callC {p : Program} {l : Launch} {e : Env} {R : Room} {s : State} {m : MethodId} {args : Array Value} {below : List Frame} {meth : Method} {c : Code} {D : va_G} {A : Nat → Prop} {nL cells slots : Nat} {Q : State → Prop} {ws : va_W} {pc : Nat} {lv : List (Nat × Value)} {st : List Value} {cc : ByteArray} {own : String} {cI cZ cW : ClassId} (hc : CX p s m args c cc nL own D cI cZ cW A) {y : MethodName} {cc' : ByteArray} {maxL' fr lo mc ms index n b : Nat} {As av : List Value} {wc rc wr : va_W} {S : Type} {post : S → Prop} {W' : S → va_W} (hM : CtV l y cc' maxL' none fr lo mc ms D cI cZ cW (.ref b :: As) wc rc post W') (hco : Cond.code y cc' maxL' none ∈ wsL_law) (hini : Cond.initialized y.cls ∈ wsL_law) (hml : Cond.methodLink own index y ∈ wsL_law) (hd : y.cls ≠ "java/lang/invoke/MethodHandle" ∧ y.cls ≠ "java/lang/invoke/VarHandle" ∧ (parseMethodDescriptor y.desc).map (fun d => d.parameters.length) = some n) (hn : As.length = n) (hR : fr + 1 ≤ R.frames ∧ 8 + (maxL' + 11) + lo ≤ R.locals) (hcells : cells + mc ≤ R.cells ∧ slots + ms ≤ R.slots) (him : Cond.instanceMethod y ∈ wsL_law) (hy1 : y.name = "<init>") (hst : As.reverse ++ .ref b :: st = av) (hrm : (st.map fun v => v.category).sum ≤ 8) (isC isR : List Nat) (hC : isC.map (fun i => ws[i]?) = wc.map some) (hRR : isR.map (fun i => ws[i]?) = wr.map some) (hndC : va_nd isC = true) (hnd : va_nd isR = true) (hdis : ∀ i ∈ isR, i ∉ isC) (hro : ∀ q ∈ rc, (∃ k : Nat, ws[k]? = some q ∧ k ∉ isC) ∨ RO D A s q) (hdg : decode cc pc = .ok (.invokespecial index, 3)) (kk : ∀ (u : S), post u → V p l e R s m args below meth c D A nL (cells + mc) (slots + ms) Q (wr ++ W' u) (pc + 3) lv st) : V p l e R s m args below meth c D A nL cells slots Q ws pc lv av := by
  intro H locs ls hP hD hS hL
  have hts := hc.2.2.2.2.1
  have hF := va_free (wc := wc) hD hS hc.2.2.2.2.2.2 isC hC
  subst hst
  exact va_callv (va_runI (Ts := wsL_law) (own := own) (n := n) (As := As) (rest := st) (nL := nL) ⟨hc.1, hc.2.1, hc.2.2.1, hc.2.2.2.1, hts⟩ (hM H.size) ⟨callB_of n hts (wlaw_good hco) rfl rfl rfl (hts _ hini) (hts _ hml) hd hR, hy1, hts _ him⟩ ⟨PC.blind, fun U hU hW => ⟨rfl, by rw [hU], hc.2.2.2.2.2.1.warm hW, by rw [hU]; exact va_P.places isC hC hP, va_D.placesT isC hndC hC hD, by rw [hU]; exact ro_ok (wr := wr) isC isR hC hP hD hS hc.2.2.2.2.2.2 hro⟩⟩ rfl hn hL.1 rfl (lv_room hrm) hdg hcells) hS (fun q _ h => hF q h) hF
    (fun u t H1 locs1 ht hvm hw hB hz1 hk1 hS1 => by
      obtain ⟨hP1, hD1⟩ := hB
      rw [ht] at hP1
      obtain ⟨hP2, hD2⟩ := va_join (wr := wr) (w1 := W' u) hP hD isC isR hC hRR hnd hdis hk1 hF hP1 hD1
      exact kk u hw H1 locs1 ls hP2 hD2 hS1 hL)
theorem r_callCN {p : Program} {l : Launch} {e : Env} {R : Room} {s : State} {m : MethodId} {args : Array Value} {below : List Frame} {meth : Method} {c : Code} {D : va_G} {A : Nat → Prop} {nL cells slots : Nat} {Q : State → Prop} {ws : va_W} {pc : Nat} {lv : List (Nat × Value)} {st : List Value} {cc : ByteArray} {own : String} {cI cZ cW : ClassId} (hc : CX p s m args c cc nL own D cI cZ cW A) {y : MethodName} {cc' : ByteArray} {maxL' fr lo mc ms index n b : Nat} {host : String} {As av : List Value} {wc rc wr : va_W} {S : Type} {post : S → Prop} {W' : S → va_W} (hM : CtV l y cc' maxL' none fr lo mc ms D cI cZ cW (.ref b :: As) wc rc post W') (hco : Cond.code y cc' maxL' none ∈ wsL_law) (hini : Cond.initialized y.cls ∈ wsL_law) (hml : Cond.methodLinkNest own index y host ∈ NWl) (hd : y.cls ≠ "java/lang/invoke/MethodHandle" ∧ y.cls ≠ "java/lang/invoke/VarHandle" ∧ (parseMethodDescriptor y.desc).map (fun d => d.parameters.length) = some n) (hn : As.length = n) (hR : fr + 1 ≤ R.frames ∧ 8 + (maxL' + 11) + lo ≤ R.locals) (hcells : cells + mc ≤ R.cells ∧ slots + ms ≤ R.slots) (him : Cond.instanceMethod y ∈ wsL_law) (hy1 : y.name = "<init>") (hst : As.reverse ++ .ref b :: st = av) (hrm : (st.map fun v => v.category).sum ≤ 8) (isC isR : List Nat) (hC : isC.map (fun i => ws[i]?) = wc.map some) (hRR : isR.map (fun i => ws[i]?) = wr.map some) (hndC : va_nd isC = true) (hnd : va_nd isR = true) (hdis : ∀ i ∈ isR, i ∉ isC) (hro : ∀ q ∈ rc, (∃ k : Nat, ws[k]? = some q ∧ k ∉ isC) ∨ RO D A s q) (hdg : decode cc pc = .ok (.invokespecial index, 3)) (kk : ∀ (u : S), post u → V p l e R s m args below meth c D A nL (cells + mc) (slots + ms) Q (wr ++ W' u) (pc + 3) lv st) : V p l e R s m args below meth c D A nL cells slots Q ws pc lv av := by
  intro H locs ls hP hD hS hL
  have hts := hc.2.2.2.2.1
  have hF := va_free (wc := wc) hD hS hc.2.2.2.2.2.2 isC hC
  subst hst
  exact va_callv (va_runIN (Ts := wsL_law) (own := own) (n := n) (As := As) (rest := st) (nL := nL) ⟨hc.1, hc.2.1, hc.2.2.1, hc.2.2.2.1, hts⟩ (hM H.size) ⟨va_cnB n hts (wlaw_good hco) rfl rfl rfl (hc.2.2.2.2.2.1.2 _ hml) (hts _ hini) hd hR, hy1, hts _ him⟩ ⟨PC.blind, fun U hU hW => ⟨rfl, by rw [hU], hc.2.2.2.2.2.1.warm hW, by rw [hU]; exact va_P.places isC hC hP, va_D.placesT isC hndC hC hD, by rw [hU]; exact ro_ok (wr := wr) isC isR hC hP hD hS hc.2.2.2.2.2.2 hro⟩⟩ rfl hn hL.1 rfl (lv_room hrm) hdg hcells) hS (fun q _ h => hF q h) hF
    (fun u t H1 locs1 ht hvm hw hB hz1 hk1 hS1 => by
      obtain ⟨hP1, hD1⟩ := hB
      rw [ht] at hP1
      obtain ⟨hP2, hD2⟩ := va_join (wr := wr) (w1 := W' u) hP hD isC isR hC hRR hnd hdis hk1 hF hP1 hD1
      exact kk u hw H1 locs1 ls hP2 hD2 hS1 hL)
