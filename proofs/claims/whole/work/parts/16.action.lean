/-! Action: numbers, names, seen, reached, size -/
abbrev AS : Type := (Nat → Option Nat) × (Nat → Nat) × (Nat → Bool) × (Nat → Nat) × Nat
def tU (α : AS) : Nat → Option Nat := α.1
def tN (α : AS) : Nat → Nat := α.2.1
def tS (α : AS) : Nat → Bool := α.2.2.1
def tR (α : AS) : Nat → Nat := α.2.2.2.1
def tZ (α : AS) : Nat := α.2.2.2.2
abbrev wB (cI cZ : ClassId) (ha h hs1 aU aN aT aG : Nat) (nu : Nat → Option Nat) (na : Nat → Nat) (se : Nat → Bool) (re : Nat → Nat) (z : Nat) : va_W := [(ha, .inr (0, [.ref h, .ref hs1, .ref aU, .ref aN, .ref aT, .ref aG, .int (nI z)])), (aU, .inl (cI, 200, .inl (fun j => eI (nu j)))), (aN, .inl (cI, 200, .inl (fun j => nI (na j)))), (aT, .inl (cZ, 200, .inl (fun j => zI (se j)))), (aG, .inl (cI, 200, .inl (fun j => nI (re j))))]
abbrev wA (cI cZ : ClassId) (ha h hs1 aU aN aT aG : Nat) (α : AS) : va_W := wB cI cZ ha h hs1 aU aN aT aG (tU α) (tN α) (tS α) (tR α) (tZ α)
def BA (α : AS) : Prop := tZ α ≤ 200 ∧ (∀ i, tN α i < 200) ∧ (∀ i d, tU α i = some d → d < 200) ∧ ∀ i, tR α i < 200
/-- where a word leads, by numbers -/
def Img (e : Nat → Option Nat) (nu : Nat → Option Nat) (na : Nat → Nat) (col : Nat → Nat) (len c d : Nat) : Prop := (∀ i, i ≤ len → ∃ p, p < 200 ∧ pth e col (na c) i = some p) ∧ ∃ p, pth e col (na c) len = some p ∧ nu p = some d
set_option maxHeartbeats 4000000 in
set_option maxRecDepth 100000 in
/-- isReady() -/
theorem c_isReady (l : Launch) (D : va_G) (cI cZ cW : ClassId) (ha h hs1 aU aN aT aG : Nat) (α : AS) (hB : BA α) : CtI l yX0_isReady cX0_isReady 1 (some .boolean) 0 0 0 0 D cI cZ cW [.ref ha] ([]) (wA cI cZ ha h hs1 aU aN aT aG α) (S := Unit) (fun r _ => r = zI (decide (0 < tZ α))) (fun _ => []) := by
  refine CtI.mk (by decide) (Nat.le_of_ble_eq_true rfl) ?_
  intro p e s m args below meth c A hc hr hlk hnm hro
  generalize hQ : MQ below _ args s 0 0 A = Q
  have hB0 := hB
  obtain ⟨bZ, bN, bU, bG⟩ := hB
  show V p l e (RM 0 0 0 0) s m args below meth c D A 1 0 0 Q ([]) 0 [(0, .ref ha)] []
  refine r_aload_n hc dX0_isReady_0 rfl 0 rfl ?_
  refine r_getR hc inlX0 (hro _ (List.mem_of_getElem? (i := 0) rfl)) rfl 6 (by decide) fl_X0_33 rfl rfl dX0_isReady_1 ?_
  refine n_if_le hc 11 dX0_isReady_4 (by decide) (by omega) (fun h1 => ?_) (fun h1 => ?_)
  · refine r_iconst (v := (nI 0)) hc dX0_isReady_11 rfl ?_
    rw [← hQ]
    refine r_zret (b := false) hc hr hlk () (congrArg zI ?_) rfl dX0_isReady_12
    simp; omega
  · refine r_iconst (v := (nI 1)) hc dX0_isReady_7 rfl ?_
    refine r_goto hc 12 dX0_isReady_8 (by decide) ?_
    rw [← hQ]
    refine r_zret (b := true) hc hr hlk () (congrArg zI ?_) rfl dX0_isReady_12
    simp; omega
def inN (z : Nat) (v : Int32) : Bool := if v < 0 then false else decide (v.toNatClampNeg < z)
theorem inN_n {z k : Nat} (hk : k < 2 ^ 31) : inN z (nI k) = decide (k < z) := by rw [inN, if_neg (nI_pos hk), nI_clamp hk]
set_option maxHeartbeats 4000000 in
set_option maxRecDepth 100000 in
/-- hasNumber(v) -/
theorem c_hasNumber (l : Launch) (D : va_G) (cI cZ cW : ClassId) (ha h hs1 aU aN aT aG : Nat) (α : AS) (v : Int32) (hB : BA α) : CtI l yX0_hasNumber cX0_hasNumber 2 (some .boolean) 0 0 0 0 D cI cZ cW [.ref ha, .int v] ([]) (wA cI cZ ha h hs1 aU aN aT aG α) (S := Unit) (fun r _ => r = zI (inN (tZ α) v)) (fun _ => []) := by
  refine CtI.mk (by decide) (Nat.le_of_ble_eq_true rfl) ?_
  intro p e s m args below meth c A hc hr hlk hnm hro
  generalize hQ : MQ below _ args s 0 0 A = Q
  have hB0 := hB
  obtain ⟨bZ, bN, bU, bG⟩ := hB
  show V p l e (RM 0 0 0 0) s m args below meth c D A 2 0 0 Q ([]) 0 [(0, .ref ha), (1, .int v)] []
  refine r_iload_n hc dX0_hasNumber_0 rfl 1 rfl ?_
  refine r_if_lt hc 16 dX0_hasNumber_1 (by decide) (fun h1 => ?_) (fun h1 => ?_)
  · refine r_iconst (v := (nI 0)) hc dX0_hasNumber_16 rfl ?_
    rw [← hQ]
    refine r_zret (b := false) hc hr hlk () (congrArg zI ?_) rfl dX0_hasNumber_17
    first | (simp [inN, *]; done) | (rw [inN_n hk]; simp; omega)
  · obtain ⟨k, hk, rfl⟩ := nI_of h1
    show V p l e (RM 0 0 0 0) s m args below meth c D A 2 0 0 Q ([]) 4 [(0, .ref ha), (1, .int (nI k))] []
    refine r_iload_n hc dX0_hasNumber_4 rfl 1 rfl ?_
    refine r_aload_n hc dX0_hasNumber_5 rfl 0 rfl ?_
    refine r_getR hc inlX0 (hro _ (List.mem_of_getElem? (i := 0) rfl)) rfl 6 (by decide) fl_X0_33 rfl rfl dX0_hasNumber_6 ?_
    refine n_icmp_ge hc 16 dX0_hasNumber_9 (by decide) (by omega) (by omega) (fun h2 => ?_) (fun h2 => ?_)
    · refine r_iconst (v := (nI 0)) hc dX0_hasNumber_16 rfl ?_
      rw [← hQ]
      refine r_zret (b := false) hc hr hlk () (congrArg zI ?_) rfl dX0_hasNumber_17
      first | (simp [inN, *]; done) | (rw [inN_n hk]; simp; omega)
    · refine r_iconst (v := (nI 1)) hc dX0_hasNumber_12 rfl ?_
      refine r_goto hc 17 dX0_hasNumber_13 (by decide) ?_
      rw [← hQ]
      refine r_zret (b := true) hc hr hlk () (congrArg zI ?_) rfl dX0_hasNumber_17
      first | (simp [inN, *]; done) | (rw [inN_n hk]; simp; omega)
set_option maxHeartbeats 4000000 in
set_option maxRecDepth 100000 in
/-- letterImage(k, x0) -/
theorem c_letterImage (l : Launch) (D : va_G) (cI cZ cW : ClassId) (ha h hs1 aU aN aT aG : Nat) (α : AS) (aE aL aF aR aS : Nat) (σ : CS) (k x0 d1 d2 : Nat) (hk : k < 200) (hx : x0 < 6) (hd1 : sE σ (tN α k * 6 + x0) = some d1) (hd1b : d1 < 200) (hd2 : tU α d1 = some d2) (hB : BA α) : CtI l yX0_letterImage cX0_letterImage 3 (some .int) 1 22 0 0 D cI cZ cW [.ref ha, .int (nI k), .int (nI x0)] ([]) (wA cI cZ ha h hs1 aU aN aT aG α ++ wS cI cZ h aE aL aF aR aS σ) (S := Unit) (fun r _ => r = nI d2) (fun _ => []) := by
  refine CtI.mk (by decide) (Nat.le_of_ble_eq_true rfl) ?_
  intro p e s m args below meth c A hc hr hlk hnm hro
  generalize hQ : MQ below _ args s 0 0 A = Q
  have hB0 := hB
  obtain ⟨bZ, bN, bU, bG⟩ := hB
  show V p l e (RM 1 22 0 0) s m args below meth c D A 3 0 0 Q ([]) 0 [(0, .ref ha), (1, .int (nI k)), (2, .int (nI x0))] []
  refine r_aload_n hc dX0_letterImage_0 rfl 0 rfl ?_
  refine r_getR hc inlX0 (hro _ (List.mem_of_getElem? (i := 0) rfl)) rfl 2 (by decide) fl_X0_9 rfl rfl dX0_letterImage_1 ?_
  refine r_aload_n hc dX0_letterImage_4 rfl 0 rfl ?_
  refine r_getR hc inlX0 (hro _ (List.mem_of_getElem? (i := 0) rfl)) rfl 0 (by decide) fl_X0_25 rfl rfl dX0_letterImage_5 ?_
  refine r_aload_n hc dX0_letterImage_8 rfl 0 rfl ?_
  refine r_getR hc inlX0 (hro _ (List.mem_of_getElem? (i := 0) rfl)) rfl 3 (by decide) fl_X0_15 rfl rfl dX0_letterImage_9 ?_
  refine r_iload_n hc dX0_letterImage_12 rfl 1 rfl ?_
  have b1 := bN k
  refine r_ialdR hc nI (hro _ (List.mem_of_getElem? (i := 2) rfl)) (by omega) (by decide) dX0_letterImage_13 ?_
  refine r_iload_n hc dX0_letterImage_14 rfl 2 rfl ?_
  refine r_callI (As := [.int (nI ((tN α) k)), .int (nI x0)]) (n := 2) (wr := []) hc (c_at l D cI cZ cW h aE aL aF aR aS σ ((tN α) k) x0 (by omega) (by omega)) co_yX1_at in_X1 ml_X0_52 (by decide +kernel) rfl ⟨by decide, by decide⟩ ⟨by decide, by decide⟩ im_yX1_at se_yX1_at rfl (Or.inr ⟨_, (hro _ (List.mem_of_getElem? (i := 5) rfl))⟩) rfl (Nat.le_of_ble_eq_true rfl) [] [] rfl rfl rfl rfl (by decide) (fun q hq => Or.inr (hro q (List.mem_append_right _ hq))) dX0_letterImage_15 (fun r2 u3 e4 => ?_)
  subst e4
  rw [hd1]
  show V p l e (RM 1 22 0 0) s m args below meth c D A 3 0 0 Q ([]) 18 [(0, .ref ha), (1, .int (nI k)), (2, .int (nI x0))] [.int (nI d1), .ref aU]
  refine r_ialdR hc eI (hro _ (List.mem_of_getElem? (i := 1) rfl)) (by omega) (by decide) dX0_letterImage_18 ?_
  rw [← hQ]
  exact r_iret hc hr hlk () (by rw [hd2]; rfl) rfl dX0_letterImage_19
set_option maxHeartbeats 4000000 in
set_option maxRecDepth 100000 in
/-- image(k, word) -/
theorem c_image (l : Launch) (D : va_G) (cI cZ cW : ClassId) (ha h hs1 aU aN aT aG : Nat) (α : AS) (aE aL aF aR aS : Nat) (σ : CS) (hw aw : Nat) (col : Nat → Nat) (len : Nat) (k d : Nat) (hk : k < 200) (hl : len ≤ 24) (hcol : ∀ j, col j < 6) (hI : Img (sE σ) (tU α) (tN α) col len k d) (hB : BA α) : CtI l yX0_image cX0_image 5 (some .int) 1 22 0 0 D cI cZ cW [.ref ha, .int (nI k), .ref hw] ([]) (wA cI cZ ha h hs1 aU aN aT aG α ++ (wS cI cZ h aE aL aF aR aS σ ++ wW cI hw aw col len)) (S := Unit) (fun r _ => r = nI d) (fun _ => []) := by
  refine CtI.mk (by decide) (Nat.le_of_ble_eq_true rfl) ?_
  intro p e s m args below meth c A hc hr hlk hnm hro
  generalize hQ : MQ below _ args s 0 0 A = Q
  have hB0 := hB
  obtain ⟨bZ, bN, bU, bG⟩ := hB
  show V p l e (RM 1 22 0 0) s m args below meth c D A 5 0 0 Q ([]) 0 [(0, .ref ha), (1, .int (nI k)), (2, .ref hw)] []
  refine r_aload_n hc dX0_image_0 rfl 0 rfl ?_
  refine r_getR hc inlX0 (hro _ (List.mem_of_getElem? (i := 0) rfl)) rfl 3 (by decide) fl_X0_15 rfl rfl dX0_image_1 ?_
  refine r_iload_n hc dX0_image_4 rfl 1 rfl ?_
  have b1 := bN k
  refine r_ialdR hc nI (hro _ (List.mem_of_getElem? (i := 2) rfl)) (by omega) (by decide) dX0_image_5 ?_
  refine r_istore_n (lv' := [(3, .int (nI ((tN α) k))), (0, .ref ha), (1, .int (nI k)), (2, .ref hw)]) hc dX0_image_6 rfl (by decide) rfl ?_
  refine r_iconst (v := (nI 0)) hc dX0_image_7 rfl ?_
  refine r_istore (lv' := [(4, .int (nI 0)), (3, .int (nI ((tN α) k))), (0, .ref ha), (1, .int (nI k)), (2, .ref hw)]) hc dX0_image_8 (by decide) rfl ?_
  have lp10 : ∀ (n : Nat) (p0 i : Nat), len - i = n → (i ≤ len) → (pth (sE σ) col (tN α k) i = some p0) → V p l e (RM 1 22 0 0) s m args below meth c D A 5 0 0 Q ([]) 10 [(4, .int (nI i)), (3, .int (nI p0)), (0, .ref ha), (1, .int (nI k)), (2, .ref hw)] [] := by
    intro n
    induction n using Nat.strongRecOn with
    | _ n ih10 =>
    intro p0 i hm10 hi hp
    refine r_iload hc dX0_image_10 0 rfl ?_
    refine r_aload_n hc dX0_image_12 rfl 4 rfl ?_
    refine r_getRN hc inlX3 (hro _ (List.mem_of_getElem? (i := 11) rfl)) rfl 1 (by decide) nf_X0_56 rfl rfl dX0_image_13 ?_
    refine n_icmp_ge hc 41 dX0_image_16 (by decide) (by omega) (by omega) (fun h2 => ?_) (fun h2 => ?_)
    · have hil : i = len := by omega
      obtain ⟨p9, hp9, hnu⟩ := hI.2
      obtain ⟨p8, hb8, hp8⟩ := hI.1 len (Nat.le_refl _)
      obtain rfl : p9 = p8 := by rw [hp9] at hp8; exact Option.some.inj hp8
      obtain rfl : p0 = p9 := by rw [hil, hp9] at hp; exact (Option.some.inj hp).symm
      refine r_aload_n hc dX0_image_41 rfl 2 rfl ?_
      refine r_getR hc inlX0 (hro _ (List.mem_of_getElem? (i := 0) rfl)) rfl 2 (by decide) fl_X0_9 rfl rfl dX0_image_42 ?_
      refine r_iload_n hc dX0_image_45 rfl 1 rfl ?_
      refine r_ialdR hc eI (hro _ (List.mem_of_getElem? (i := 1) rfl)) (by omega) (by decide) dX0_image_46 ?_
      rw [← hQ]
      exact r_iret hc hr hlk () (by rw [hnu]; rfl) rfl dX0_image_47
    · obtain ⟨p1, hp1b, hp1⟩ := hI.1 (i + 1) (by omega)
      have hpb : p0 < 200 := by
        obtain ⟨p, hb, hp2⟩ := hI.1 i (by omega)
        rw [hp] at hp2; cases hp2; exact hb
      have he : sE σ (p0 * 6 + col i) = some p1 := by
        have z := hp1; rw [pth, hp] at z; exact z
      have hcb := hcol i
      refine r_aload_n hc dX0_image_19 rfl 2 rfl ?_
      refine r_getR hc inlX0 (hro _ (List.mem_of_getElem? (i := 0) rfl)) rfl 0 (by decide) fl_X0_25 rfl rfl dX0_image_20 ?_
      refine r_iload_n hc dX0_image_23 rfl 1 rfl ?_
      refine r_aload_n hc dX0_image_24 rfl 4 rfl ?_
      refine r_getRN hc inlX3 (hro _ (List.mem_of_getElem? (i := 11) rfl)) rfl 0 (by decide) nf_X0_61 rfl rfl dX0_image_25 ?_
      refine r_iload hc dX0_image_28 0 rfl ?_
      refine r_ialdR hc nI (hro _ (List.mem_of_getElem? (i := 12) rfl)) (by omega) (by decide) dX0_image_30 ?_
      refine r_callI (As := [.int (nI p0), .int (nI (col i))]) (n := 2) (wr := []) hc (c_at l D cI cZ cW h aE aL aF aR aS σ p0 (col i) (by omega) (by omega)) co_yX1_at in_X1 ml_X0_52 (by decide +kernel) rfl ⟨by decide, by decide⟩ ⟨by decide, by decide⟩ im_yX1_at se_yX1_at rfl (Or.inr ⟨_, (hro _ (List.mem_of_getElem? (i := 5) rfl))⟩) rfl (Nat.le_of_ble_eq_true rfl) [] [] rfl rfl rfl rfl (by decide) (fun q hq => Or.inr (hro q (List.mem_append_right _ (List.mem_append_left _ hq)))) dX0_image_31 (fun r3 u4 e5 => ?_)
      subst e5
      show V p l e (RM 1 22 0 0) s m args below meth c D A 5 0 0 Q ([]) 34 [(4, .int (nI i)), (3, .int (nI p0)), (0, .ref ha), (1, .int (nI k)), (2, .ref hw)] [.int (eI (sE σ (p0 * 6 + (col i))))]
      rw [he]
      show V p l e (RM 1 22 0 0) s m args below meth c D A 5 0 0 Q ([]) 34 [(4, .int (nI i)), (3, .int (nI p0)), (0, .ref ha), (1, .int (nI k)), (2, .ref hw)] [.int (nI p1)]
      refine r_istore_n (lv' := [(3, .int (nI p1)), (4, .int (nI i)), (0, .ref ha), (1, .int (nI k)), (2, .ref hw)]) hc dX0_image_34 rfl (by decide) rfl ?_
      refine r_iinc (k := 1) (v := (nI (i + 1))) (lv' := [(4, .int (nI (i + 1))), (3, .int (nI p1)), (0, .ref ha), (1, .int (nI k)), (2, .ref hw)]) hc dX0_image_35 rfl (nI_add _ _) (by decide) rfl ?_
      refine r_goto hc 10 dX0_image_38 (by decide) ?_
      refine r_lv [0, 1, 2, 3, 4] rfl ?_
      exact ih10 _ (by omega) p1 (i + 1) rfl (by omega) hp1
  refine r_lv [0, 1, 2, 3, 4] rfl ?_
  exact lp10 _ (tN α k) 0 rfl (Nat.zero_le _) rfl
