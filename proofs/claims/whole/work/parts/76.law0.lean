def R_law : String := "CosetTableLaw"
def lw_P (b : Addr) (xs : List Int32) (args : Array Value) (s : State) : Prop := args = #[.ref b] ∧ s.IntsAt b xs ∧ xs.length ≤ 1536 ∧ (Jvm.Cond.and given_1 narrow_1).before args s = true
def lw_Q (_ : Array Value) (s : State) (o : Outcome) (t : State) : Prop := o = .returned (some (.int 1)) ∧ Framed s o t [] 600000 7302250
def lw_Z (below : List Frame) (a : Array Value) (s : State) : State → Prop := fun t => ∃ o, t.status = .running ∧ Ended t below o ∧ lw_Q a s o t
/-- the law's own end, with 1 on the stack, nothing written that was there before, its room as the claim has it -/
theorem lw_ret {p : Program} {l : Launch} {e : Env} {s : State} {m : MethodId} {below : List Frame} {meth : Method} {c : Code} {b : Nat} (hx : p.tables.exec = Jvm.exec) (hb : c.code = code) (hr : meth.sig.returnType = ret) (hlocks : meth.locks = false) {pc : Nat} {H : Heap} {ls : Array Slot} (hdg : decode code pc = .ok (.ireturn, 1)) : W p l e room_1 s m #[Value.ref b] below meth c H [] 600000 7302250 (lw_Z below #[Value.ref b] s) (F0 m pc ls [.int 1]) := by
  intro T hT X
  obtain ⟨fs, hret, hrun, hended, hW, hframe⟩ := X.leave (v := some (.int 1)) (hlocks := hlocks) (fun h => by rw [hr] at h; cases h)
  have hmeth' : T.vm.method? m = some meth := X.method'
  refine ⟨T.setFrames fs, ?_, .returned (some (.int 1)), hrun, hended, rfl, ⟨_, rfl⟩, hW, hframe⟩
  jvm_step X.here [X.here.top, hx, hb, hdg, hmeth', hr, ret, narrow_b1]
  (try refine ⟨rfl, ?_⟩); (try refine ⟨rfl, ?_⟩)
  first | (intro acts; rw [hret _ acts rfl rfl rfl]) | rw [hret _ _ rfl rfl rfl]
  exact Steps.refl _
/-- what holds at the law's entry: the machine, the code, the tables' words (any of lw_tbl by 'hts w (by decide +kernel)'), the script of L ints xs at the cell b, what the Statement gives of the start (any of its parts by flat_of_before) -/
def lw_At (p : Program) (s : State) (m : MethodId) (meth : Method) (c : Code) (b L : Nat) (xs : Nat → Int32) : Prop :=
  p.tables.exec = Jvm.exec ∧ c.code = code ∧ meth.sig.returnType = ret ∧ c.maxLocals = 4 ∧ s.vm.findClass R_law = some m.cls ∧ (∀ w ∈ lw_tbl, w.before #[Value.ref b] s = true) ∧ va_X b L xs s s.heap ∧ b < s.heap.size ∧ meth.locks = false ∧ (Jvm.Cond.and given_1 narrow_1).before #[Value.ref b] s = true
/-! the law's world -/
abbrev wLw (cI cZ cW : ClassId) (hx : Nat) (a : AT) (g gL gS gW gT gO gP gU gA gE gQ : Nat) (n : Nat) (hcol : Nat → Nat) (hlen : Nat) (rcol : Nat → Nat → Nat) (rlen : Nat → Nat) (nr : Nat) (scol : Nat → Nat → Nat) (slen : Nat → Nat) (ns : Nat) (σ : CS) (α : AS) (ρ : RS) : va_W := wT cI cZ cW hx a n hcol hlen rcol rlen nr scol slen ns σ α ++ wR cI cZ g gL gS gW gT gO gP gU gA gE gQ ρ
section LW0
variable {p : Program} {l : Launch} {e : Env} {R : Room} {s : State} {m : MethodId} {args : Array Value} {below : List Frame} {meth : Method} {c : Code} {D : va_G} {A : Nat → Prop} {nL cells slots : Nat} {Q : State → Prop} {ws : va_W} {pc : Nat} {lv : List (Nat × Value)} {st : List Value} {cc : ByteArray} {own : String} {cI cZ cW : ClassId}
theorem r_sld (hc : CX p s m args c cc nL own D cI cZ cW A) {b L : Nat} {xs : Nat → Int32} (hX : va_X b L xs s s.heap) (hbl : b < s.heap.size) (hbA : ¬ A b) {i v : Int32} (hv : xs i.toNatClampNeg = v) (hin : vp_in i L) (hdg : decode cc pc = .ok (.iaload, 1)) (kk : V p l e R s m args below meth c D A nL cells slots Q ws (pc + 1) lv (.int v :: st)) : V p l e R s m args below meth c D A nL cells slots Q ws pc lv (.int i :: .ref b :: st) := fun H locs ls hP hD hS hL => va_sld hc.1 hc.2.1 hX hbl hbA hS hin hdg (by rw [hv]; exact kk H locs ls hP hD hS hL)
theorem r_slen (hc : CX p s m args c cc nL own D cI cZ cW A) {b L : Nat} {xs : Nat → Int32} (hX : va_X b L xs s s.heap) (hbl : b < s.heap.size) (hbA : ¬ A b) (hdg : decode cc pc = .ok (.arraylength, 1)) (kk : V p l e R s m args below meth c D A nL cells slots Q ws (pc + 1) lv (.int (nI L) :: st)) : V p l e R s m args below meth c D A nL cells slots Q ws pc lv (.ref b :: st) := fun H locs ls hP hD hS hL => va_slen hc.1 hc.2.1 hX hbl hbA hS hdg (kk H locs ls hP hD hS hL)
end LW0
theorem rng {v : Int32} {N : Nat} (hN : N < 2 ^ 31) (h : ¬ (v < nI 1 ∨ ¬ v ≤ nI N)) : ∃ k, 1 ≤ k ∧ k ≤ N ∧ v = nI k := by
  have h1 : ¬ v < nI 1 := fun w => h (Or.inl w)
  have h2 : v ≤ nI N := Classical.byContradiction fun w => h (Or.inr w)
  have h0 : ¬ v < 0 := fun w => h1 (by
    have e1 : v.toInt < (0 : Int32).toInt := Int32.lt_iff_toInt_lt.mp w
    refine Int32.lt_iff_toInt_lt.mpr ?_
    rw [nI_toInt (by decide)]
    have : (0 : Int32).toInt = 0 := by decide
    omega)
  obtain ⟨j, hj, rfl⟩ := nI_of h0
  rw [nI_ltI hj (by decide)] at h1
  rw [nI_leI hj hN] at h2
  exact ⟨j, by omega, h2, rfl⟩
theorem neg_of {v : Int32} (h : ¬ v.toInt < 0) : ¬ v < 0 := fun w => h (by
  have e1 : v.toInt < (0 : Int32).toInt := Int32.lt_iff_toInt_lt.mp w
  have : (0 : Int32).toInt = 0 := by decide
  omega)
theorem rng7 {v : Int32} (h : ¬ (v.toInt < 0 ∨ 7 < v.toInt)) : v = nI 0 ∨ v = nI 1 ∨ v = nI 2 ∨ v = nI 3 ∨ v = nI 4 ∨ v = nI 5 ∨ v = nI 6 ∨ v = nI 7 := by
  obtain ⟨j, hj, rfl⟩ := nI_of (neg_of (fun w => h (Or.inl w)))
  rw [nI_toInt hj] at h
  have hj7 : j ≤ 7 := by omega
  rcases (show j = 0 ∨ j = 1 ∨ j = 2 ∨ j = 3 ∨ j = 4 ∨ j = 5 ∨ j = 6 ∨ j = 7 by omega) with rfl | rfl | rfl | rfl | rfl | rfl | rfl | rfl <;> simp
theorem liv_nat {σ : CS} {v : Int32} (h : livI σ v = true) : ∃ k, k < 2 ^ 31 ∧ v = nI k := by
  unfold livI at h
  by_cases w : v < 0
  · rw [if_pos w] at h; cases h
  · exact nI_of w
theorem in_nat {z : Nat} {v : Int32} (h : inN z v = true) : ∃ k, k < z ∧ v = nI k := by
  unfold inN at h
  by_cases w : v < 0
  · rw [if_pos w] at h; cases h
  · rw [if_neg w] at h
    obtain ⟨j, hj, rfl⟩ := nI_of w
    rw [nI_clamp hj] at h
    exact ⟨j, of_decide_eq_true h, rfl⟩
theorem in_0 {z : Nat} {v : Int32} (h : z = 0) : inN z v = false := by
  unfold inN
  rw [h]
  split
  · rfl
  · exact decide_eq_false (by omega)
theorem lg_self {x y : Int64} (h : x = y) : lg_cmp x y = 0 := by
  subst h
  simp [lg_cmp]
theorem and15 (x : Int32) : ∃ j, j < 16 ∧ x &&& nI 15 = nI j := by
  have hb : (x &&& nI 15).toBitVec.toNat < 16 := by
    have : (x &&& nI 15).toBitVec = x.toBitVec &&& (nI 15).toBitVec := rfl
    rw [this, BitVec.toNat_and]
    have h15 : (nI 15).toBitVec.toNat = 15 := by decide
    rw [h15]
    exact Nat.lt_of_le_of_lt Nat.and_le_right (by decide)
  refine ⟨(x &&& nI 15).toBitVec.toNat, hb, ?_⟩
  apply Int32.toBitVec_inj.mp
  show _ = BitVec.ofNat 32 _
  apply BitVec.eq_of_toNat_eq
  rw [BitVec.toNat_ofNat]
  exact (Nat.mod_eq_of_lt (BitVec.isLt _)).symm
