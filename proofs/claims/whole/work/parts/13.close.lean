/-! close -/
def pth (e : Nat → Option Nat) (g : Nat → Nat) (c : Nat) (i : Nat) : Option Nat := match i with | 0 => some c | i + 1 => match pth e g c i with | none => none | some p => e (p * 6 + g i)
def bp (e : Nat → Option Nat) (g : Nat → Nat) (len c : Nat) (k : Nat) : Option Nat := match k with | 0 => some c | k + 1 => match bp e g len c k with | none => none | some q => e (q * 6 + (g (len - 1 - k) ^^^ 1))
def PreUn (σ : CS) (k d : Nat) : Prop := (¬ sL (fU0 σ) k = sL (fU0 σ) d → 1 ≤ sV (fU0 σ)) ∧ BD (fU0 σ) ∧ (∀ i, i ≤ 200 → (∀ j, j < i → j < sFc (unI (fFall (fU0 σ) k d) j)) → BD (unI (fFall (fU0 σ) k d) i)) ∧ (∀ i, i < 200 → (∀ j, j < i + 1 → j < sFc (unI (fFall (fU0 σ) k d) j)) → ∀ x, x < sC (unI (fFall (fU0 σ) k d) i) → PreHo (hoI (unI (fFall (fU0 σ) k d) i) (sF (unI (fFall (fU0 σ) k d) i) i) x))
def PreC (σ : CS) : Prop := BD σ ∧ (∀ c x d, c < sM σ → x < 6 → sE σ (c * 6 + x) = some d → d < sM σ) ∧ (∀ p, p < 1200 → sS σ p = false → sRc σ < 1200) ∧ ∀ a b, a < sM σ → b < sM σ → PreUn σ a b
def rot (col : Nat → Nat) (len st : Nat) : Nat → Nat := fun j => rnd col len (st + j)
def CloseR (σ : CS) (col : Nat → Nat) (len st c : Nat) (u : CS) : Prop :=
  (∃ p, pth (sE σ) (rot col len st) c len = some p ∧ UnEnd (fFall (fU0 σ) p c) u)
  ∨ (∃ i p, i < len ∧ pth (sE σ) (rot col len st) c i = some p ∧ sE σ (p * 6 + rot col len st i) = none ∧
      ((∃ q, bp (sE σ) (rot col len st) len c (len - 1 - i) = some q ∧ sE σ (q * 6 + (rot col len st i ^^^ 1)) = none ∧ u = fJoin σ p (rot col len st i) q)
      ∨ (∃ q t, bp (sE σ) (rot col len st) len c (len - 1 - i) = some q ∧ sE σ (q * 6 + (rot col len st i ^^^ 1)) = some t ∧ UnEnd (fFall (fU0 σ) t p) u)
      ∨ (∃ k, k < len - 1 - i ∧ bp (sE σ) (rot col len st) len c (k + 1) = none ∧ u = σ)))
theorem pth_lt {e : Nat → Option Nat} {g : Nat → Nat} {c M : Nat} (he : ∀ i d, e i = some d → d < M) (hc : c < M) {i p : Nat} (h : pth e g c i = some p) : p < M := by
  cases i with
  | zero => cases h; exact hc
  | succ i =>
    rw [pth] at h
    split at h
    · cases h
    · exact he _ _ h
theorem bp_lt {e : Nat → Option Nat} {g : Nat → Nat} {len c M : Nat} (he : ∀ i d, e i = some d → d < M) (hc : c < M) {i p : Nat} (h : bp e g len c i = some p) : p < M := by
  cases i with
  | zero => cases h; exact hc
  | succ i =>
    rw [bp] at h
    split at h
    · cases h
    · exact he _ _ h
theorem pth_lt2 {e : Nat → Option Nat} {g : Nat → Nat} {c M : Nat} (he : ∀ c x d, c < M → x < 6 → e (c * 6 + x) = some d → d < M) (hg : ∀ j, g j < 6) (hc : c < M) {i : Nat} : ∀ {p : Nat}, pth e g c i = some p → p < M := by
  induction i with
  | zero => intro p h; cases h; exact hc
  | succ i ih =>
    intro p h
    rw [pth] at h
    cases e1 : pth e g c i with
    | none => rw [e1] at h; cases h
    | some q => rw [e1] at h; exact he q _ _ (ih e1) (hg i) h
theorem bp_lt2 {e : Nat → Option Nat} {g : Nat → Nat} {len c M : Nat} (he : ∀ c x d, c < M → x < 6 → e (c * 6 + x) = some d → d < M) (hg : ∀ j, g j < 6) (hc : c < M) {i : Nat} : ∀ {p : Nat}, bp e g len c i = some p → p < M := by
  induction i with
  | zero => intro p h; cases h; exact hc
  | succ i ih =>
    intro p h
    rw [bp] at h
    cases e1 : bp e g len c i with
    | none => rw [e1] at h; cases h
    | some q => rw [e1] at h; exact he q _ _ (ih e1) (xor1_lt (hg _)) h
theorem rnd_lt {col : Nat → Nat} (hcol : ∀ j, col j < 6) (len i : Nat) : rnd col len i < 6 := hcol _
set_option maxHeartbeats 4000000 in
set_option maxRecDepth 100000 in
/-- close(word, st0, c0) -/
theorem c_close (l : Launch) (D : va_G) (cI cZ cW : ClassId) (h aE aL aF aR aS : Nat) (σ : CS) (hi hr1 hs1 hw aw : Nat) (col : Nat → Nat) (len : Nat) (st0 c0 : Nat) (hl : len ≤ 24) (hst : st0 < len) (hcol : ∀ j, col j < 6) (hcM : c0 < sM σ) (hC : PreC σ) : CtV l yX2_close cX2_close 9 none 3 73 0 0 D cI cZ cW [.ref hi, .ref hw, .int (nI st0), .int (nI c0)] (wS cI cZ h aE aL aF aR aS σ) ((hi, .inr (2, [.ref h, .ref hr1, .ref hs1])) :: wW cI hw aw col len) (S := CS) (fun u => CloseR σ col len st0 c0 u) (fun u => wS cI cZ h aE aL aF aR aS u) := by
  refine CtV.mk (by decide) (Nat.le_of_ble_eq_true rfl) ?_
  intro p e s m args below meth c A hc hr hlk hnm hro
  generalize hQ : MQ below _ args s 0 0 A = Q
  obtain ⟨cB, cE, cS, cU⟩ := hC
  have cB0 := cB
  obtain ⟨bM, bC, bL, bF, bR, bE, bRc, bFc, bV, bO⟩ := cB
  show V p l e (RM 3 73 0 0) s m args below meth c D A 9 0 0 Q (wS cI cZ h aE aL aF aR aS σ) 0 [(0, .ref hi), (1, .ref hw), (2, .int (nI st0)), (3, .int (nI c0))] []
  refine r_iload_n hc dX2_close_0 rfl 3 rfl ?_
  refine r_istore (lv' := [(4, .int (nI c0)), (0, .ref hi), (1, .ref hw), (2, .int (nI st0)), (3, .int (nI c0))]) hc dX2_close_1 (by decide) rfl ?_
  refine r_iconst (v := (nI 0)) hc dX2_close_3 rfl ?_
  refine r_istore (lv' := [(5, .int (nI 0)), (4, .int (nI c0)), (0, .ref hi), (1, .ref hw), (2, .int (nI st0)), (3, .int (nI c0))]) hc dX2_close_4 (by decide) rfl ?_
  have lp6 : ∀ (n : Nat) (p0 i : Nat), len - i = n → (i ≤ len) → (pth (sE σ) (rot col len st0) c0 i = some p0) → V p l e (RM 3 73 0 0) s m args below meth c D A 9 0 0 Q (wS cI cZ h aE aL aF aR aS σ) 6 [(5, .int (nI i)), (4, .int (nI p0)), (0, .ref hi), (1, .ref hw), (2, .int (nI st0)), (3, .int (nI c0))] [] := by
    intro n
    induction n using Nat.strongRecOn with
    | _ n ih6 =>
    intro p0 i hm6 hi1 hp
    have hpM := pth_lt2 cE (fun j => rnd_lt hcol len (st0 + j)) hcM hp
    refine r_iload hc dX2_close_6 0 rfl ?_
    refine r_aload_n hc dX2_close_8 rfl 3 rfl ?_
    refine r_getRN hc inlX3 (hro _ (List.mem_of_getElem? (i := 1) rfl)) rfl 1 (by decide) nf_X2_57 rfl rfl dX2_close_9 ?_
    refine n_icmp_ge hc 61 dX2_close_12 (by decide) (by omega) (by omega) (fun h1 => ?_) (fun h1 => ?_)
    · refine r_iload hc dX2_close_61 0 rfl ?_
      refine r_aload_n hc dX2_close_63 rfl 3 rfl ?_
      refine r_getRN hc inlX3 (hro _ (List.mem_of_getElem? (i := 1) rfl)) rfl 1 (by decide) nf_X2_57 rfl rfl dX2_close_64 ?_
      refine n_icmp_ne hc 81 dX2_close_67 (by decide) (by omega) (by omega) (fun h2 => ?_) (fun h2 => ?_)
      · exact absurd (show i = len by omega) h2
      · have hil : i = len := h2
        refine r_aload_n hc dX2_close_70 rfl 2 rfl ?_
        refine r_getR hc inlX2 (hro _ (List.mem_of_getElem? (i := 0) rfl)) rfl 0 (by decide) fl_X2_9 rfl rfl dX2_close_71 ?_
        refine r_iload hc dX2_close_74 1 rfl ?_
        refine r_iload_n hc dX2_close_76 rfl 5 rfl ?_
        obtain ⟨uV, uB, uBi, uP⟩ := (cU p0 c0 hpM hcM)
        refine r_callV (As := [.int (nI p0), .int (nI c0)]) (n := 2) (wr := []) hc (c_unite l D cI cZ cW h aE aL aF aR aS σ p0 c0 (by omega) (by omega) uV uB uBi uP) co_yX1_unite in_X1 ml_X2_74 (by decide +kernel) rfl ⟨by decide, by decide⟩ ⟨by decide, by decide⟩ im_yX1_unite se_yX1_unite rfl (Or.inl ⟨0, _, rfl⟩) rfl (Nat.le_of_ble_eq_true rfl) [0, 1, 2, 3, 4, 5] [] rfl rfl rfl rfl (by decide) (fun q hq => absurd hq List.not_mem_nil) dX2_close_77 (fun u e3 => ?_)
        show V p l e (RM 3 73 0 0) s m args below meth c D A 9 0 0 Q (wS cI cZ h aE aL aF aR aS u) 80 [(5, .int (nI i)), (4, .int (nI p0)), (0, .ref hi), (1, .ref hw), (2, .int (nI st0)), (3, .int (nI c0))] []
        rw [← hQ]
        exact r_vret hc hr hlk u (Or.inl ⟨p0, by have z := hp; rw [hil] at z; exact z, e3⟩) rfl dX2_close_80
    · refine r_aload_n hc dX2_close_15 rfl 2 rfl ?_
      refine r_getR hc inlX2 (hro _ (List.mem_of_getElem? (i := 0) rfl)) rfl 0 (by decide) fl_X2_9 rfl rfl dX2_close_16 ?_
      refine r_iload hc dX2_close_19 1 rfl ?_
      refine r_aload_n hc dX2_close_21 rfl 3 rfl ?_
      refine r_iload_n hc dX2_close_22 rfl 4 rfl ?_
      refine r_iload hc dX2_close_23 0 rfl ?_
      refine n_add hc dX2_close_25 ?_
      refine r_callI (As := [.int (nI (st0 + i))]) (n := 1) (wr := wS cI cZ h aE aL aF aR aS σ) hc (c_around l D cI cZ cW hw aw col len (st0 + i) hl (by omega)) co_yX3_around in_X3 ml_X2_70 (by decide +kernel) rfl ⟨by decide, by decide⟩ ⟨by decide, by decide⟩ im_yX3_around se_yX3_around rfl (Or.inr ⟨_, (hro _ (List.mem_of_getElem? (i := 1) rfl))⟩) rfl (Nat.le_of_ble_eq_true rfl) [] [0, 1, 2, 3, 4, 5] rfl rfl rfl rfl (by decide) (fun q hq => Or.inr (hro q (List.mem_cons_of_mem _ hq))) dX2_close_26 (fun r4 u5 e6 => ?_)
      subst e6
      show V p l e (RM 3 73 0 0) s m args below meth c D A 9 0 0 Q (wS cI cZ h aE aL aF aR aS σ) 29 [(5, .int (nI i)), (4, .int (nI p0)), (0, .ref hi), (1, .ref hw), (2, .int (nI st0)), (3, .int (nI c0))] [.int (nI (rnd col len (st0 + i))), .int (nI p0), .ref h]
      have q7 := rnd_lt hcol len (st0 + i)
      have q8 := xor1_lt (rnd_lt hcol len (st0 + i))
      refine r_callI (As := [.int (nI p0), .int (nI (rnd col len (st0 + i)))]) (n := 2) (wr := wS cI cZ h aE aL aF aR aS σ) hc (c_at l D cI cZ cW h aE aL aF aR aS σ p0 (rnd col len (st0 + i)) (by omega) (by omega)) co_yX1_at in_X1 ml_X2_62 (by decide +kernel) rfl ⟨by decide, by decide⟩ ⟨by decide, by decide⟩ im_yX1_at se_yX1_at rfl (Or.inl ⟨0, _, rfl⟩) rfl (Nat.le_of_ble_eq_true rfl) [] [0, 1, 2, 3, 4, 5] rfl rfl rfl rfl (by decide) (fun q hq => Or.inl ((List.getElem?_of_mem hq).elim fun k hk => ⟨k, hk, List.not_mem_nil⟩)) dX2_close_29 (fun r9 u10 e11 => ?_)
      subst e11
      show V p l e (RM 3 73 0 0) s m args below meth c D A 9 0 0 Q (wS cI cZ h aE aL aF aR aS σ) 32 [(5, .int (nI i)), (4, .int (nI p0)), (0, .ref hi), (1, .ref hw), (2, .int (nI st0)), (3, .int (nI c0))] [.int (eI (sE σ (p0 * 6 + (rnd col len (st0 + i)))))]
      refine r_iconst (v := (-1)) hc dX2_close_32 rfl ?_
      refine e_icmp_eq hc 61 dX2_close_33 (by decide) (fun d h => Nat.lt_trans (bE _ d h) (by decide)) (fun h12 => ?_) (fun d13 h12 => ?_)
      · refine r_iload hc dX2_close_61 0 rfl ?_
        refine r_aload_n hc dX2_close_63 rfl 3 rfl ?_
        refine r_getRN hc inlX3 (hro _ (List.mem_of_getElem? (i := 1) rfl)) rfl 1 (by decide) nf_X2_57 rfl rfl dX2_close_64 ?_
        refine n_icmp_ne hc 81 dX2_close_67 (by decide) (by omega) (by omega) (fun h14 => ?_) (fun h14 => ?_)
        · refine r_iload_n hc dX2_close_81 rfl 5 rfl ?_
          refine r_istore (lv' := [(6, .int (nI c0)), (5, .int (nI i)), (4, .int (nI p0)), (0, .ref hi), (1, .ref hw), (2, .int (nI st0)), (3, .int (nI c0))]) hc dX2_close_82 (by decide) rfl ?_
          refine r_aload_n hc dX2_close_84 rfl 4 rfl ?_
          refine r_getRN hc inlX3 (hro _ (List.mem_of_getElem? (i := 1) rfl)) rfl 1 (by decide) nf_X2_57 rfl rfl dX2_close_85 ?_
          refine r_iconst (v := (nI 1)) hc dX2_close_88 rfl ?_
          refine n_sub hc dX2_close_89 (by omega) ?_
          refine r_istore (lv' := [(7, .int (nI (len - 1))), (6, .int (nI c0)), (5, .int (nI i)), (4, .int (nI p0)), (0, .ref hi), (1, .ref hw), (2, .int (nI st0)), (3, .int (nI c0))]) hc dX2_close_90 (by decide) rfl ?_
          have hil : i < len := by omega
          have lp92 : ∀ (n : Nat) (q0 b0 : Nat), b0 = n → (i ≤ b0) → (b0 ≤ len - 1) → (bp (sE σ) (rot col len st0) len c0 (len - 1 - b0) = some q0) → V p l e (RM 3 73 0 0) s m args below meth c D A 9 0 0 Q (wS cI cZ h aE aL aF aR aS σ) 92 [(7, .int (nI b0)), (6, .int (nI q0)), (5, .int (nI i)), (4, .int (nI p0)), (0, .ref hi), (1, .ref hw), (2, .int (nI st0)), (3, .int (nI c0))] [] := by
            intro n
            induction n using Nat.strongRecOn with
            | _ n ih92 =>
            intro q0 b0 hm92 hb1 hb2 hq
            have hqM := bp_lt2 cE (fun j => rnd_lt hcol len (st0 + j)) hcM hq
            refine r_iload hc dX2_close_92 0 rfl ?_
            refine r_iload hc dX2_close_94 2 rfl ?_
            refine n_icmp_le hc 133 dX2_close_96 (by decide) (by omega) (by omega) (fun h15 => ?_) (fun h15 => ?_)
            · obtain rfl : i = b0 := by omega
              show V p l e (RM 3 73 0 0) s m args below meth c D A 9 0 0 Q (wS cI cZ h aE aL aF aR aS σ) 133 [(7, .int (nI i)), (6, .int (nI q0)), (5, .int (nI i)), (4, .int (nI p0)), (0, .ref hi), (1, .ref hw), (2, .int (nI st0)), (3, .int (nI c0))] []
              refine r_aload_n hc dX2_close_133 rfl 5 rfl ?_
              refine r_iload_n hc dX2_close_134 rfl 6 rfl ?_
              refine r_iload hc dX2_close_135 2 rfl ?_
              refine n_add hc dX2_close_137 ?_
              refine r_callI (As := [.int (nI (st0 + i))]) (n := 1) (wr := wS cI cZ h aE aL aF aR aS σ) hc (c_around l D cI cZ cW hw aw col len (st0 + i) hl (by omega)) co_yX3_around in_X3 ml_X2_70 (by decide +kernel) rfl ⟨by decide, by decide⟩ ⟨by decide, by decide⟩ im_yX3_around se_yX3_around rfl (Or.inr ⟨_, (hro _ (List.mem_of_getElem? (i := 1) rfl))⟩) rfl (Nat.le_of_ble_eq_true rfl) [] [0, 1, 2, 3, 4, 5] rfl rfl rfl rfl (by decide) (fun q hq => Or.inr (hro q (List.mem_cons_of_mem _ hq))) dX2_close_138 (fun r16 u17 e18 => ?_)
              subst e18
              show V p l e (RM 3 73 0 0) s m args below meth c D A 9 0 0 Q (wS cI cZ h aE aL aF aR aS σ) 141 [(7, .int (nI i)), (6, .int (nI q0)), (5, .int (nI i)), (4, .int (nI p0)), (0, .ref hi), (1, .ref hw), (2, .int (nI st0)), (3, .int (nI c0))] [.int (nI (rnd col len (st0 + i)))]
              refine r_istore (lv' := [(7, .int (nI (rnd col len (st0 + i)))), (6, .int (nI q0)), (5, .int (nI i)), (4, .int (nI p0)), (0, .ref hi), (1, .ref hw), (2, .int (nI st0)), (3, .int (nI c0))]) hc dX2_close_141 (by decide) rfl ?_
              refine r_aload_n hc dX2_close_143 rfl 4 rfl ?_
              refine r_getR hc inlX2 (hro _ (List.mem_of_getElem? (i := 0) rfl)) rfl 0 (by decide) fl_X2_9 rfl rfl dX2_close_144 ?_
              refine r_iload hc dX2_close_147 1 rfl ?_
              refine r_iload hc dX2_close_149 0 rfl ?_
              refine r_iconst (v := (nI 1)) hc dX2_close_151 rfl ?_
              refine n_xor hc dX2_close_152 ?_
              refine r_callI (As := [.int (nI q0), .int (nI ((rnd col len (st0 + i)) ^^^ 1))]) (n := 2) (wr := wS cI cZ h aE aL aF aR aS σ) hc (c_at l D cI cZ cW h aE aL aF aR aS σ q0 ((rnd col len (st0 + i)) ^^^ 1) (by omega) (by omega)) co_yX1_at in_X1 ml_X2_62 (by decide +kernel) rfl ⟨by decide, by decide⟩ ⟨by decide, by decide⟩ im_yX1_at se_yX1_at rfl (Or.inl ⟨0, _, rfl⟩) rfl (Nat.le_of_ble_eq_true rfl) [] [0, 1, 2, 3, 4, 5] rfl rfl rfl rfl (by decide) (fun q hq => Or.inl ((List.getElem?_of_mem hq).elim fun k hk => ⟨k, hk, List.not_mem_nil⟩)) dX2_close_153 (fun r19 u20 e21 => ?_)
              subst e21
              show V p l e (RM 3 73 0 0) s m args below meth c D A 9 0 0 Q (wS cI cZ h aE aL aF aR aS σ) 156 [(7, .int (nI (rnd col len (st0 + i)))), (6, .int (nI q0)), (5, .int (nI i)), (4, .int (nI p0)), (0, .ref hi), (1, .ref hw), (2, .int (nI st0)), (3, .int (nI c0))] [.int (eI (sE σ (q0 * 6 + ((rnd col len (st0 + i)) ^^^ 1))))]
              refine r_istore (lv' := [(8, .int (eI (sE σ (q0 * 6 + ((rnd col len (st0 + i)) ^^^ 1))))), (7, .int (nI (rnd col len (st0 + i)))), (6, .int (nI q0)), (5, .int (nI i)), (4, .int (nI p0)), (0, .ref hi), (1, .ref hw), (2, .int (nI st0)), (3, .int (nI c0))]) hc dX2_close_156 (by decide) rfl ?_
              refine r_iload hc dX2_close_158 0 rfl ?_
              refine r_iconst (v := (-1)) hc dX2_close_160 rfl ?_
              refine e_icmp_ne hc 180 dX2_close_161 (by decide) (fun d h => Nat.lt_trans (bE _ d h) (by decide)) (fun d23 h22 => ?_) (fun h22 => ?_)
              · rw [h22]
                show V _ _ _ _ _ _ _ _ _ _ _ _ _ _ _ _ _ _ [(8, .int (nI d23)), (7, .int (nI (rnd col len (st0 + i)))), (6, .int (nI q0)), (5, .int (nI i)), (4, .int (nI p0)), (0, .ref hi), (1, .ref hw), (2, .int (nI st0)), (3, .int (nI c0))] []
                refine r_aload_n hc dX2_close_180 rfl 5 rfl ?_
                refine r_getR hc inlX2 (hro _ (List.mem_of_getElem? (i := 0) rfl)) rfl 0 (by decide) fl_X2_9 rfl rfl dX2_close_181 ?_
                refine r_iload hc dX2_close_184 0 rfl ?_
                refine r_iload hc dX2_close_186 4 rfl ?_
                obtain ⟨uV, uB, uBi, uP⟩ := (cU d23 p0 (cE _ _ _ hqM (xor1_lt (rnd_lt hcol len (st0 + i))) h22) hpM)
                refine r_callV (As := [.int (nI d23), .int (nI p0)]) (n := 2) (wr := []) hc (c_unite l D cI cZ cW h aE aL aF aR aS σ d23 p0 (by have := cE _ _ _ hqM (xor1_lt (rnd_lt hcol len (st0 + i))) h22; omega) (by omega) uV uB uBi uP) co_yX1_unite in_X1 ml_X2_74 (by decide +kernel) rfl ⟨by decide, by decide⟩ ⟨by decide, by decide⟩ im_yX1_unite se_yX1_unite rfl (Or.inl ⟨0, _, rfl⟩) rfl (Nat.le_of_ble_eq_true rfl) [0, 1, 2, 3, 4, 5] [] rfl rfl rfl rfl (by decide) (fun q hq => absurd hq List.not_mem_nil) dX2_close_188 (fun u e24 => ?_)
                show V p l e (RM 3 73 0 0) s m args below meth c D A 9 0 0 Q (wS cI cZ h aE aL aF aR aS u) 191 [(8, .int (nI d23)), (7, .int (nI (rnd col len (st0 + i)))), (6, .int (nI q0)), (5, .int (nI i)), (4, .int (nI p0)), (0, .ref hi), (1, .ref hw), (2, .int (nI st0)), (3, .int (nI c0))] []
                rw [← hQ]
                exact r_vret hc hr hlk u (Or.inr ⟨_, p0, hil, hp, h12, Or.inr (Or.inl ⟨q0, _, hq, h22, e24⟩)⟩) rfl dX2_close_191
              · refine r_aload_n hc dX2_close_164 rfl 5 rfl ?_
                refine r_getR hc inlX2 (hro _ (List.mem_of_getElem? (i := 0) rfl)) rfl 0 (by decide) fl_X2_9 rfl rfl dX2_close_165 ?_
                refine r_iload hc dX2_close_168 4 rfl ?_
                refine r_iload hc dX2_close_170 1 rfl ?_
                refine r_iload hc dX2_close_172 2 rfl ?_
                refine r_callV (As := [.int (nI p0), .int (nI (rnd col len (st0 + i))), .int (nI q0)]) (n := 3) (wr := []) hc (c_join l D cI cZ cW h aE aL aF aR aS σ p0 (rnd col len (st0 + i)) q0 (by omega) (by omega) (by omega) (fun z => cS _ (by omega) z) cB0) co_yX1_join in_X1 ml_X2_78 (by decide +kernel) rfl ⟨by decide, by decide⟩ ⟨by decide, by decide⟩ im_yX1_join se_yX1_join rfl (Or.inl ⟨0, _, rfl⟩) rfl (Nat.le_of_ble_eq_true rfl) [0, 1, 2, 3, 4, 5] [] rfl rfl rfl rfl (by decide) (fun q hq => absurd hq List.not_mem_nil) dX2_close_174 (fun u e25 => ?_)
                show V p l e (RM 3 73 0 0) s m args below meth c D A 9 0 0 Q (wS cI cZ h aE aL aF aR aS u) 177 [(8, .int (eI (sE σ (q0 * 6 + ((rnd col len (st0 + i)) ^^^ 1))))), (7, .int (nI (rnd col len (st0 + i)))), (6, .int (nI q0)), (5, .int (nI i)), (4, .int (nI p0)), (0, .ref hi), (1, .ref hw), (2, .int (nI st0)), (3, .int (nI c0))] []
                refine r_goto hc 191 dX2_close_177 (by decide) ?_
                rw [← hQ]
                exact r_vret hc hr hlk u (Or.inr ⟨_, p0, hil, hp, h12, Or.inl ⟨q0, hq, h22, e25⟩⟩) rfl dX2_close_191
            · refine r_aload_n hc dX2_close_99 rfl 4 rfl ?_
              refine r_getR hc inlX2 (hro _ (List.mem_of_getElem? (i := 0) rfl)) rfl 0 (by decide) fl_X2_9 rfl rfl dX2_close_100 ?_
              refine r_iload hc dX2_close_103 1 rfl ?_
              refine r_aload_n hc dX2_close_105 rfl 5 rfl ?_
              refine r_iload_n hc dX2_close_106 rfl 6 rfl ?_
              refine r_iload hc dX2_close_107 0 rfl ?_
              refine n_add hc dX2_close_109 ?_
              refine r_callI (As := [.int (nI (st0 + b0))]) (n := 1) (wr := wS cI cZ h aE aL aF aR aS σ) hc (c_around l D cI cZ cW hw aw col len (st0 + b0) hl (by omega)) co_yX3_around in_X3 ml_X2_70 (by decide +kernel) rfl ⟨by decide, by decide⟩ ⟨by decide, by decide⟩ im_yX3_around se_yX3_around rfl (Or.inr ⟨_, (hro _ (List.mem_of_getElem? (i := 1) rfl))⟩) rfl (Nat.le_of_ble_eq_true rfl) [] [0, 1, 2, 3, 4, 5] rfl rfl rfl rfl (by decide) (fun q hq => Or.inr (hro q (List.mem_cons_of_mem _ hq))) dX2_close_110 (fun r26 u27 e28 => ?_)
              subst e28
              show V p l e (RM 3 73 0 0) s m args below meth c D A 9 0 0 Q (wS cI cZ h aE aL aF aR aS σ) 113 [(7, .int (nI b0)), (6, .int (nI q0)), (5, .int (nI i)), (4, .int (nI p0)), (0, .ref hi), (1, .ref hw), (2, .int (nI st0)), (3, .int (nI c0))] [.int (nI (rnd col len (st0 + b0))), .int (nI q0), .ref h]
              have q29 := rnd_lt hcol len (st0 + b0)
              have q30 := xor1_lt (rnd_lt hcol len (st0 + b0))
              refine r_iconst (v := (nI 1)) hc dX2_close_113 rfl ?_
              refine n_xor hc dX2_close_114 ?_
              refine r_callI (As := [.int (nI q0), .int (nI ((rnd col len (st0 + b0)) ^^^ 1))]) (n := 2) (wr := wS cI cZ h aE aL aF aR aS σ) hc (c_at l D cI cZ cW h aE aL aF aR aS σ q0 ((rnd col len (st0 + b0)) ^^^ 1) (by omega) (by omega)) co_yX1_at in_X1 ml_X2_62 (by decide +kernel) rfl ⟨by decide, by decide⟩ ⟨by decide, by decide⟩ im_yX1_at se_yX1_at rfl (Or.inl ⟨0, _, rfl⟩) rfl (Nat.le_of_ble_eq_true rfl) [] [0, 1, 2, 3, 4, 5] rfl rfl rfl rfl (by decide) (fun q hq => Or.inl ((List.getElem?_of_mem hq).elim fun k hk => ⟨k, hk, List.not_mem_nil⟩)) dX2_close_115 (fun r31 u32 e33 => ?_)
              subst e33
              show V p l e (RM 3 73 0 0) s m args below meth c D A 9 0 0 Q (wS cI cZ h aE aL aF aR aS σ) 118 [(7, .int (nI b0)), (6, .int (nI q0)), (5, .int (nI i)), (4, .int (nI p0)), (0, .ref hi), (1, .ref hw), (2, .int (nI st0)), (3, .int (nI c0))] [.int (eI (sE σ (q0 * 6 + ((rnd col len (st0 + b0)) ^^^ 1))))]
              refine r_istore (lv' := [(6, .int (eI (sE σ (q0 * 6 + ((rnd col len (st0 + b0)) ^^^ 1))))), (7, .int (nI b0)), (5, .int (nI i)), (4, .int (nI p0)), (0, .ref hi), (1, .ref hw), (2, .int (nI st0)), (3, .int (nI c0))]) hc dX2_close_118 (by decide) rfl ?_
              refine r_iload hc dX2_close_120 0 rfl ?_
              refine r_iconst (v := (-1)) hc dX2_close_122 rfl ?_
              refine e_icmp_ne hc 127 dX2_close_123 (by decide) (fun d h => Nat.lt_trans (bE _ d h) (by decide)) (fun d35 h34 => ?_) (fun h34 => ?_)
              · rw [h34]
                show V _ _ _ _ _ _ _ _ _ _ _ _ _ _ _ _ _ _ [(6, .int (nI d35)), (7, .int (nI b0)), (5, .int (nI i)), (4, .int (nI p0)), (0, .ref hi), (1, .ref hw), (2, .int (nI st0)), (3, .int (nI c0))] []
                refine r_iinc (k := 1) (v := (nI (b0 - 1))) (lv' := [(7, .int (nI (b0 - 1))), (6, .int (nI d35)), (5, .int (nI i)), (4, .int (nI p0)), (0, .ref hi), (1, .ref hw), (2, .int (nI st0)), (3, .int (nI c0))]) hc dX2_close_127 rfl (n_dec (by omega)) (by decide) rfl ?_
                refine r_goto hc 92 dX2_close_130 (by decide) ?_
                refine r_lv [0, 1, 2, 3, 4, 5, 6, 7] rfl ?_
                exact ih92 _ (by omega) d35 (b0 - 1) rfl (by omega) (by omega) (by rw [show len - 1 - (b0 - 1) = len - 1 - b0 + 1 by omega, bp, hq, show len - 1 - (len - 1 - b0) = b0 by omega]; exact h34)
              · rw [← hQ]
                exact r_vret hc hr hlk σ (Or.inr ⟨i, p0, hil, hp, h12, Or.inr (Or.inr ⟨len - 1 - b0, by omega, by rw [bp, hq, show len - 1 - (len - 1 - b0) = b0 by omega]; exact h34, rfl⟩)⟩) rfl dX2_close_126
          refine r_lv [0, 1, 2, 3, 4, 5, 6, 7] rfl ?_
          exact lp92 _ c0 (len - 1) rfl (by omega) (by omega) (by rw [Nat.sub_self]; rfl)
        · exact absurd h14 (by omega)
      · refine r_aload_n hc dX2_close_36 rfl 2 rfl ?_
        refine r_getR hc inlX2 (hro _ (List.mem_of_getElem? (i := 0) rfl)) rfl 0 (by decide) fl_X2_9 rfl rfl dX2_close_37 ?_
        refine r_iload hc dX2_close_40 1 rfl ?_
        refine r_aload_n hc dX2_close_42 rfl 3 rfl ?_
        refine r_iload_n hc dX2_close_43 rfl 4 rfl ?_
        refine r_iload hc dX2_close_44 0 rfl ?_
        refine n_add hc dX2_close_46 ?_
        refine r_callI (As := [.int (nI (st0 + i))]) (n := 1) (wr := wS cI cZ h aE aL aF aR aS σ) hc (c_around l D cI cZ cW hw aw col len (st0 + i) hl (by omega)) co_yX3_around in_X3 ml_X2_70 (by decide +kernel) rfl ⟨by decide, by decide⟩ ⟨by decide, by decide⟩ im_yX3_around se_yX3_around rfl (Or.inr ⟨_, (hro _ (List.mem_of_getElem? (i := 1) rfl))⟩) rfl (Nat.le_of_ble_eq_true rfl) [] [0, 1, 2, 3, 4, 5] rfl rfl rfl rfl (by decide) (fun q hq => Or.inr (hro q (List.mem_cons_of_mem _ hq))) dX2_close_47 (fun r36 u37 e38 => ?_)
        subst e38
        show V p l e (RM 3 73 0 0) s m args below meth c D A 9 0 0 Q (wS cI cZ h aE aL aF aR aS σ) 50 [(5, .int (nI i)), (4, .int (nI p0)), (0, .ref hi), (1, .ref hw), (2, .int (nI st0)), (3, .int (nI c0))] [.int (nI (rnd col len (st0 + i))), .int (nI p0), .ref h]
        refine r_callI (As := [.int (nI p0), .int (nI (rnd col len (st0 + i)))]) (n := 2) (wr := wS cI cZ h aE aL aF aR aS σ) hc (c_at l D cI cZ cW h aE aL aF aR aS σ p0 (rnd col len (st0 + i)) (by omega) (by omega)) co_yX1_at in_X1 ml_X2_62 (by decide +kernel) rfl ⟨by decide, by decide⟩ ⟨by decide, by decide⟩ im_yX1_at se_yX1_at rfl (Or.inl ⟨0, _, rfl⟩) rfl (Nat.le_of_ble_eq_true rfl) [] [0, 1, 2, 3, 4, 5] rfl rfl rfl rfl (by decide) (fun q hq => Or.inl ((List.getElem?_of_mem hq).elim fun k hk => ⟨k, hk, List.not_mem_nil⟩)) dX2_close_50 (fun r39 u40 e41 => ?_)
        subst e41
        show V p l e (RM 3 73 0 0) s m args below meth c D A 9 0 0 Q (wS cI cZ h aE aL aF aR aS σ) 53 [(5, .int (nI i)), (4, .int (nI p0)), (0, .ref hi), (1, .ref hw), (2, .int (nI st0)), (3, .int (nI c0))] [.int (eI (sE σ (p0 * 6 + (rnd col len (st0 + i)))))]
        rw [h12]
        show V p l e (RM 3 73 0 0) s m args below meth c D A 9 0 0 Q (wS cI cZ h aE aL aF aR aS σ) 53 [(5, .int (nI i)), (4, .int (nI p0)), (0, .ref hi), (1, .ref hw), (2, .int (nI st0)), (3, .int (nI c0))] [.int (nI d13)]
        refine r_istore (lv' := [(4, .int (nI d13)), (5, .int (nI i)), (0, .ref hi), (1, .ref hw), (2, .int (nI st0)), (3, .int (nI c0))]) hc dX2_close_53 (by decide) rfl ?_
        refine r_iinc (k := 1) (v := (nI (i + 1))) (lv' := [(5, .int (nI (i + 1))), (4, .int (nI d13)), (0, .ref hi), (1, .ref hw), (2, .int (nI st0)), (3, .int (nI c0))]) hc dX2_close_55 rfl (nI_add _ _) (by decide) rfl ?_
        refine r_goto hc 6 dX2_close_58 (by decide) ?_
        refine r_lv [0, 1, 2, 3, 4, 5] rfl ?_
        exact ih6 _ (by omega) d13 (i + 1) rfl (by omega) (by rw [pth, hp]; exact h12)
  refine r_lv [0, 1, 2, 3, 4, 5] rfl ?_
  exact lp6 _ c0 0 rfl (Nat.zero_le _) rfl
