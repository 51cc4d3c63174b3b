theorem gnn_z (c : Nat) (α : AS) : tZ α ≤ tZ (gnn c α) := by unfold gnn; split; exact Nat.le_refl _; show tZ α ≤ tZ α + 1; omega
set_option maxHeartbeats 4000000 in
set_option maxRecDepth 100000 in
/-- giveNumbers() -/
theorem c_giveNumbers (l : Launch) (D : va_G) (cI cZ cW : ClassId) (ha h hs1 aU aN aT aG : Nat) (α : AS) (aE aL aF aR aS : Nat) (σ : CS) (hC6 : sC σ ≤ 6) (N : Nat → Nat → AS → Prop) (hBG : BA (filI (tU α) 200, tN α, tS α, tR α, 0)) (h0 : N 0 0 (gnn 0 (filI (tU α) 200, tN α, tS α, tR α, 0))) (hBN : ∀ k x β, N k x β → BA β) (hN : ∀ k x β, N k x β → k < tZ β → x < sC σ → ∃ d, sE σ (tN β k * 6 + x) = some d ∧ d < 200 ∧ (tU β d = none → tZ β < 200) ∧ N k (x + 1) (gnn d β)) (hO : ∀ k β, N k (sC σ) β → k < tZ β → N (k + 1) 0 β) (hB : BA α) : CtV l yX0_giveNumbers cX0_giveNumbers 3 none 1 23 0 0 D cI cZ cW [.ref ha] (wA cI cZ ha h hs1 aU aN aT aG α) (wS cI cZ h aE aL aF aR aS σ) (S := AS) (fun u => ∃ k, N k 0 u ∧ (tZ u ≤ k ∨ 200 ≤ k)) (fun u => wA cI cZ ha h hs1 aU aN aT aG u) := by
  refine CtV.mk (by decide) (Nat.le_of_ble_eq_true rfl) ?_
  intro p e s m args below meth c A hc hr hlk hnm hro
  generalize hQ : MQ below _ args s 0 0 A = Q
  have hB0 := hB
  obtain ⟨bZ, bN, bU, bG⟩ := hB
  show V p l e (RM 1 23 0 0) s m args below meth c D A 3 0 0 Q (wA cI cZ ha h hs1 aU aN aT aG α) 0 [(0, .ref ha)] []
  refine r_aload_n hc dX0_giveNumbers_0 rfl 0 rfl ?_
  refine r_get hc inlX0 0 rfl rfl 2 (by decide) fl_X0_9 rfl rfl dX0_giveNumbers_1 ?_
  refine r_iconst (v := (-1)) hc dX0_giveNumbers_4 rfl ?_
  refine r_callsV (As := [.ref aU, .int (-1)]) (n := 2) (wr := [(ha, .inr (0, [.ref h, .ref hs1, .ref aU, .ref aN, .ref aT, .ref aG, .int (nI (tZ α))])), (aN, .inl (cI, 200, .inl (fun j => nI (tN α j)))), (aT, .inl (cZ, 200, .inl (fun j => zI (tS α j)))), (aG, .inl (cI, 200, .inl (fun j => nI (tR α j))))]) hc (c_fill l D cI cZ cW aU (tU α)) co_yJ7_fill_53178 in_J7 ml_X0_37 (by decide +kernel) rfl ⟨by decide, by decide⟩ ⟨by decide, by decide⟩ st_yJ7_fill_53178 rfl (Nat.le_of_ble_eq_true rfl) [1] [0, 2, 3, 4] rfl rfl rfl rfl (by decide) (fun q hq => absurd hq List.not_mem_nil) dX0_giveNumbers_5 (fun u0 e0 => ?_)
  subst e0
  refine r_perm (ws' := wB cI cZ ha h hs1 aU aN aT aG (filI (tU α) 200) (tN α) (tS α) (tR α) (tZ α)) [0, 4, 1, 2, 3] rfl rfl ?_
  refine r_aload_n hc dX0_giveNumbers_8 rfl 0 rfl ?_
  refine r_iconst (v := (nI 0)) hc dX0_giveNumbers_9 rfl ?_
  refine r_put (ws' := wB cI cZ ha h hs1 aU aN aT aG (filI (tU α) 200) (tN α) (tS α) (tR α) 0) hc inlX0 tyX0 tyX0_ok nmX0 0 rfl rfl 6 (by decide) fl_X0_33 rfl rfl rfl rfl (Nat.le_of_ble_eq_true rfl) rfl dX0_giveNumbers_10 ?_
  refine r_aload_n hc dX0_giveNumbers_13 rfl 0 rfl ?_
  refine r_iconst (v := (nI 0)) hc dX0_giveNumbers_14 rfl ?_
  show V p l e (RM 1 23 0 0) s m args below meth c D A 3 0 0 Q (wA cI cZ ha h hs1 aU aN aT aG (filI (tU α) 200, tN α, tS α, tR α, 0)) 15 [(0, .ref ha)] [.int (nI 0), .ref ha]
  refine r_callV (As := [.int (nI 0)]) (n := 1) (wr := []) hc (c_gnn l D cI cZ cW ha h hs1 aU aN aT aG (filI (tU α) 200, tN α, tS α, tR α, 0) 0 (by decide) (fun _ => by show 0 < 200; decide) hBG) co_yX0_giveNextNumber in_X0 ml_X0_43 (by decide +kernel) rfl ⟨by decide, by decide⟩ ⟨by decide, by decide⟩ im_yX0_giveNextNumber se_yX0_giveNextNumber rfl (Or.inl ⟨0, _, rfl⟩) rfl (Nat.le_of_ble_eq_true rfl) [0, 1, 2, 3, 4] [] rfl rfl rfl rfl (by decide) (fun q hq => absurd hq List.not_mem_nil) dX0_giveNumbers_15 (fun u e1 => ?_)
  show V p l e (RM 1 23 0 0) s m args below meth c D A 3 0 0 Q (wA cI cZ ha h hs1 aU aN aT aG u) 18 [(0, .ref ha)] []
  subst e1
  refine r_iconst (v := (nI 0)) hc dX0_giveNumbers_18 rfl ?_
  refine r_istore_n (lv' := [(1, .int (nI 0)), (0, .ref ha)]) hc dX0_giveNumbers_19 rfl (by decide) rfl ?_
  have lp20 : ∀ (n : Nat) (β : AS) (k : Nat), 200 - k = n → (k ≤ 200) → (N k 0 β) → V p l e (RM 1 23 0 0) s m args below meth c D A 3 0 0 Q (wA cI cZ ha h hs1 aU aN aT aG β) 20 [(1, .int (nI k)), (0, .ref ha)] [] := by
    intro n
    induction n using Nat.strongRecOn with
    | _ n ih20 =>
    intro β k hm20 hk hN0
    obtain ⟨cZ1, cN1, cU1, cG1⟩ := hBN _ _ _ hN0
    refine r_iload_n hc dX0_giveNumbers_20 rfl 0 rfl ?_
    refine r_aload_n hc dX0_giveNumbers_21 rfl 1 rfl ?_
    refine r_get hc inlX0 0 rfl rfl 6 (by decide) fl_X0_33 rfl rfl dX0_giveNumbers_22 ?_
    refine n_icmp_ge hc 78 dX0_giveNumbers_25 (by decide) (by omega) (by omega) (fun h2 => ?_) (fun h2 => ?_)
    · rw [← hQ]
      exact r_vret hc hr hlk β ⟨k, hN0, Or.inl h2⟩ rfl dX0_giveNumbers_78
    · refine r_iload_n hc dX0_giveNumbers_28 rfl 0 rfl ?_
      refine r_sipush (v := (nI 200)) hc dX0_giveNumbers_29 rfl ?_
      refine n_icmp_ge hc 78 dX0_giveNumbers_32 (by decide) (by omega) (by omega) (fun h3 => ?_) (fun h3 => ?_)
      · rw [← hQ]
        exact r_vret hc hr hlk β ⟨k, hN0, Or.inr h3⟩ rfl dX0_giveNumbers_78
      · refine r_iconst (v := (nI 0)) hc dX0_giveNumbers_35 rfl ?_
        refine r_istore_n (lv' := [(2, .int (nI 0)), (1, .int (nI k)), (0, .ref ha)]) hc dX0_giveNumbers_36 rfl (by decide) rfl ?_
        have lp37 : ∀ (n : Nat) (β : AS) (x0 : Nat), sC σ - x0 = n → (x0 ≤ sC σ) → (N k x0 β) → (k < tZ β) → V p l e (RM 1 23 0 0) s m args below meth c D A 3 0 0 Q (wA cI cZ ha h hs1 aU aN aT aG β) 37 [(2, .int (nI x0)), (1, .int (nI k)), (0, .ref ha)] [] := by
          intro n
          induction n using Nat.strongRecOn with
          | _ n ih37 =>
          intro β x0 hm37 hx hNx hkz
          have hBb := hBN _ _ _ hNx
          obtain ⟨dZ1, dN1, dU1, dG1⟩ := id hBb
          refine r_iload_n hc dX0_giveNumbers_37 rfl 0 rfl ?_
          refine r_aload_n hc dX0_giveNumbers_38 rfl 2 rfl ?_
          refine r_get hc inlX0 0 rfl rfl 0 (by decide) fl_X0_25 rfl rfl dX0_giveNumbers_39 ?_
          refine r_getRN hc inlX1 (hro _ (List.mem_of_getElem? (i := 0) rfl)) rfl 8 (by decide) nf_X0_47 rfl rfl dX0_giveNumbers_42 ?_
          refine n_icmp_ge hc 72 dX0_giveNumbers_45 (by decide) (by omega) (by omega) (fun h4 => ?_) (fun h4 => ?_)
          · obtain ⟨β2, hb2⟩ : ∃ q, q = β := ⟨_, rfl⟩
            have hN2 : N (k + 1) 0 β2 := by rw [hb2]; exact hO k β ((show x0 = sC σ by omega) ▸ hNx) hkz
            rw [← hb2]
            refine r_iinc (k := 1) (v := (nI (k + 1))) (lv' := [(1, .int (nI (k + 1))), (2, .int (nI x0)), (0, .ref ha)]) hc dX0_giveNumbers_72 rfl (nI_add _ _) (by decide) rfl ?_
            refine r_goto hc 20 dX0_giveNumbers_75 (by decide) ?_
            refine r_lv [0, 2] rfl ?_
            exact ih20 _ (by omega) β2 (k + 1) rfl (by omega) hN2
          · obtain ⟨d1, hd1, hd1b, hz1, hN1⟩ := hN k x0 β hNx hkz h4
            have hnk := dN1 k
            refine r_aload_n hc dX0_giveNumbers_48 rfl 2 rfl ?_
            refine r_aload_n hc dX0_giveNumbers_49 rfl 2 rfl ?_
            refine r_get hc inlX0 0 rfl rfl 0 (by decide) fl_X0_25 rfl rfl dX0_giveNumbers_50 ?_
            refine r_aload_n hc dX0_giveNumbers_53 rfl 2 rfl ?_
            refine r_get hc inlX0 0 rfl rfl 3 (by decide) fl_X0_15 rfl rfl dX0_giveNumbers_54 ?_
            refine r_iload_n hc dX0_giveNumbers_57 rfl 1 rfl ?_
            have b5 := dN1 k
            refine r_iald hc nI 2 rfl (by omega) (by decide) dX0_giveNumbers_58 ?_
            refine r_iload_n hc dX0_giveNumbers_59 rfl 0 rfl ?_
            refine r_callI (As := [.int (nI ((tN β) k)), .int (nI x0)]) (n := 2) (wr := wA cI cZ ha h hs1 aU aN aT aG β) hc (c_at l D cI cZ cW h aE aL aF aR aS σ ((tN β) k) x0 (by omega) (by omega)) co_yX1_at in_X1 ml_X0_52 (by decide +kernel) rfl ⟨by decide, by decide⟩ ⟨by decide, by decide⟩ im_yX1_at se_yX1_at rfl (Or.inr ⟨_, (hro _ (List.mem_of_getElem? (i := 0) rfl))⟩) rfl (Nat.le_of_ble_eq_true rfl) [] [0, 1, 2, 3, 4] rfl rfl rfl rfl (by decide) (fun q hq => Or.inr (hro q hq)) dX0_giveNumbers_60 (fun r6 u7 e8 => ?_)
            subst e8
            rw [hd1]
            show V p l e (RM 1 23 0 0) s m args below meth c D A 3 0 0 Q (wA cI cZ ha h hs1 aU aN aT aG β) 63 [(2, .int (nI x0)), (1, .int (nI k)), (0, .ref ha)] [.int (nI d1), .ref ha]
            refine r_callV (As := [.int (nI d1)]) (n := 1) (wr := []) hc (c_gnn l D cI cZ cW ha h hs1 aU aN aT aG β d1 hd1b hz1 hBb) co_yX0_giveNextNumber in_X0 ml_X0_43 (by decide +kernel) rfl ⟨by decide, by decide⟩ ⟨by decide, by decide⟩ im_yX0_giveNextNumber se_yX0_giveNextNumber rfl (Or.inl ⟨0, _, rfl⟩) rfl (Nat.le_of_ble_eq_true rfl) [0, 1, 2, 3, 4] [] rfl rfl rfl rfl (by decide) (fun q hq => absurd hq List.not_mem_nil) dX0_giveNumbers_63 (fun u e9 => ?_)
            show V p l e (RM 1 23 0 0) s m args below meth c D A 3 0 0 Q (wA cI cZ ha h hs1 aU aN aT aG u) 66 [(2, .int (nI x0)), (1, .int (nI k)), (0, .ref ha)] []
            subst e9
            refine r_iinc (k := 0) (v := (nI (x0 + 1))) (lv' := [(2, .int (nI (x0 + 1))), (1, .int (nI k)), (0, .ref ha)]) hc dX0_giveNumbers_66 rfl (nI_add _ _) (by decide) rfl ?_
            refine r_goto hc 37 dX0_giveNumbers_69 (by decide) ?_
            refine r_lv [0, 1, 2] rfl ?_
            exact ih37 _ (by omega) (gnn d1 β) (x0 + 1) rfl (by omega) hN1 (Nat.lt_of_lt_of_le hkz (gnn_z d1 β))
        refine r_lv [0, 1, 2] rfl ?_
        exact lp37 _ β 0 rfl (Nat.zero_le _) hN0 h2
  refine r_lv [0, 1] rfl ?_
  exact lp20 _ (gnn 0 (filI (tU α) 200, tN α, tS α, tR α, 0)) 0 rfl (by decide) h0
/-- the state of the search: marked, reached, how many, the lowest; k of them are through, the next up to word w -/
def LJ (fs : Nat → Nat → Nat) (z ns c0 : Nat) (se : Nat → Bool) (re : Nat → Nat) (cnt low k w : Nat) : Prop :=
  cntT se z = cnt ∧ (∀ j, j < cnt → re j < z ∧ se (re j) = true) ∧ (∀ d, d < z → se d = true → ∃ j, j < cnt ∧ re j = d) ∧ se c0 = true ∧ low < z ∧ se low = true ∧ (∀ d, d < z → se d = true → low ≤ d) ∧
  (∀ j v, j < k → v < ns → se (fs v (re j)) = true) ∧ (∀ v, v < w → se (fs v (re k)) = true) ∧ (∀ P : Nat → Prop, P c0 → (∀ d i, d < z → i < ns → P d → P (fs i d)) → ∀ d, d < z → se d = true → P d) ∧ (∀ j, re j < 200)
theorem LJ_start {fs : Nat → Nat → Nat} {z ns c0 : Nat} {se : Nat → Bool} {re : Nat → Nat} (hc : c0 < z) (hre : ∀ j, re j < 200) (hz : z ≤ 200) (h0 : ∀ i, i < z → se i = false) : LJ fs z ns c0 (va_up se c0 true) (va_up re 0 c0) 1 c0 0 0 := by
  refine ⟨?_, ?_, ?_, ?_, hc, ?_, ?_, ?_, ?_, ?_, ?_⟩
  · rw [cntT_up hc (h0 c0 hc), cntT_0 h0]
  · intro j hj
    obtain rfl : j = 0 := by omega
    simp [va_up, hc]
  · intro d hd h
    refine ⟨0, by decide, ?_⟩
    by_cases hdc : d = c0
    · simp [va_up, hdc]
    · simp [va_up, hdc, h0 d hd] at h
  · simp [va_up]
  · simp [va_up]
  · intro d hd h
    by_cases hdc : d = c0
    · omega
    · simp [va_up, hdc, h0 d hd] at h
  · intro j v hj; omega
  · intro v hv; omega
  · intro P hP _ d hd h
    by_cases hdc : d = c0
    · rw [hdc]; exact hP
    · simp [va_up, hdc, h0 d hd] at h
  · intro j
    by_cases hj : j = 0
    · simp [va_up, hj]; omega
    · simp [va_up, hj]; exact hre j
theorem LJ_seen {fs : Nat → Nat → Nat} {z ns c0 : Nat} {se : Nat → Bool} {re : Nat → Nat} {cnt low k w : Nat} (h : LJ fs z ns c0 se re cnt low k w) (hs : se (fs w (re k)) = true) : LJ fs z ns c0 se re cnt low k (w + 1) := by
  obtain ⟨h1, h2, h3, h4, h5, h6, h7, h8, h9, h10, h11⟩ := h
  refine ⟨h1, h2, h3, h4, h5, h6, h7, h8, fun v hv => ?_, h10, h11⟩
  by_cases hvw : v = w
  · rw [hvw]; exact hs
  · exact h9 v (by omega)
theorem LJ_new {fs : Nat → Nat → Nat} {z ns c0 : Nat} {se : Nat → Bool} {re : Nat → Nat} {cnt low k w : Nat} (h : LJ fs z ns c0 se re cnt low k w) (hk : k < cnt) (hw : w < ns) (hz : z ≤ 200) (hd : fs w (re k) < z) (hs : se (fs w (re k)) = false) :
    cnt < z ∧ LJ fs z ns c0 (va_up se (fs w (re k)) true) (va_up re cnt (fs w (re k))) (cnt + 1) (if fs w (re k) < low then fs w (re k) else low) k (w + 1) := by
  obtain ⟨h1, h2, h3, h4, h5, h6, h7, h8, h9, h10, h11⟩ := h
  have hlt : cnt < z := by rw [← h1]; exact cntT_lt hd hs
  have hup : ∀ i, se i = true → va_up se (fs w (re k)) true i = true := by
    intro i hi; by_cases q : i = fs w (re k)
    · simp [va_up, q]
    · simp [va_up, q, hi]
  have hre : ∀ j, j < cnt → va_up re cnt (fs w (re k)) j = re j := by intro j hj; simp [va_up, show ¬ j = cnt by omega]
  refine ⟨hlt, ?_, ?_, ?_, hup _ h4, ?_, ?_, ?_, ?_, ?_, ?_, ?_⟩
  · rw [cntT_up hd hs, h1]
  · intro j hj
    by_cases q : j = cnt
    · subst q; simp [va_up, hd]
    · rw [hre j (by omega)]; exact ⟨(h2 j (by omega)).1, hup _ (h2 j (by omega)).2⟩
  · intro d hd2 hs2
    by_cases q : d = fs w (re k)
    · exact ⟨cnt, by omega, by simp [va_up, q]⟩
    · have : se d = true := by simpa [va_up, q] using hs2
      obtain ⟨j, hj, e⟩ := h3 d hd2 this
      exact ⟨j, by omega, by rw [hre j hj]; exact e⟩
  · split <;> assumption
  · split
    · simp [va_up]
    · exact hup _ h6
  · intro d hd2 hs2
    by_cases q : d = fs w (re k)
    · subst q; split <;> omega
    · have : se d = true := by simpa [va_up, q] using hs2
      have := h7 d hd2 this
      split <;> omega
  · intro j v hj hv
    rw [hre j (by omega)]; exact hup _ (h8 j v hj hv)
  · intro v hv
    rw [hre k hk]
    by_cases q : v = w
    · subst q; simp [va_up]
    · exact hup _ (h9 v (by omega))
  · intro P hP hcl d hd2 hs2
    by_cases q : d = fs w (re k)
    · subst q; exact hcl _ _ (h2 k hk).1 hw (h10 P hP hcl _ (h2 k hk).1 (h2 k hk).2)
    · exact h10 P hP hcl d hd2 (by simpa [va_up, q] using hs2)
  · intro j
    by_cases q : j = cnt
    · simp [va_up, q]; omega
    · simp [va_up, q]; exact h11 j
theorem LJ_next {fs : Nat → Nat → Nat} {z ns c0 : Nat} {se : Nat → Bool} {re : Nat → Nat} {cnt low k : Nat} (h : LJ fs z ns c0 se re cnt low k ns) : LJ fs z ns c0 se re cnt low (k + 1) 0 := by
  obtain ⟨h1, h2, h3, h4, h5, h6, h7, h8, h9, h10, h11⟩ := h
  refine ⟨h1, h2, h3, h4, h5, h6, h7, fun j v hj hv => ?_, fun v hv => by omega, h10, h11⟩
  by_cases q : j = k
  · rw [q]; exact h9 v hv
  · exact h8 j v (by omega) hv
/-- the answer of lowestJoined -/
def LowR (fs : Nat → Nat → Nat) (z ns c0 low : Nat) : Prop := ∃ se : Nat → Bool, se c0 = true ∧ (∀ d i, d < z → i < ns → se d = true → se (fs i d) = true) ∧ (∀ P : Nat → Prop, P c0 → (∀ d i, d < z → i < ns → P d → P (fs i d)) → ∀ d, d < z → se d = true → P d) ∧ low < z ∧ se low = true ∧ ∀ d, d < z → se d = true → low ≤ d
theorem LJ_end {fs : Nat → Nat → Nat} {z ns c0 : Nat} {se : Nat → Bool} {re : Nat → Nat} {cnt low k : Nat} (h : LJ fs z ns c0 se re cnt low k 0) (hk : cnt ≤ k) : LowR fs z ns c0 low := by
  obtain ⟨h1, h2, h3, h4, h5, h6, h7, h8, h9, h10, h11⟩ := h
  refine ⟨se, h4, fun d i hd hi hs => ?_, h10, h5, h6, h7⟩
  obtain ⟨j, hj, e⟩ := h3 d hd hs
  rw [← e]; exact h8 j i (by omega) hi
theorem frgI_f {se : Nat → Bool} {n i : Nat} (h : i < n) : frgI se n i = false := by
  induction n with
  | zero => omega
  | succ n ih =>
    rw [frgI]
    by_cases q : i = n
    · simp [va_up, q]
    · simp [va_up, q]; exact ih (by omega)
theorem n_min {a b : Nat} (ha : a < 2 ^ 31) (hb : b < 2 ^ 31) : (if nI b < nI a then nI b else nI a) = nI (if b < a then b else a) := by
  by_cases h : b < a
  · rw [if_pos h, if_pos ((nI_ltI hb ha).mpr h)]
  · rw [if_neg h, if_neg (fun q => h ((nI_ltI hb ha).mp q))]
