def gDec (ρ : RS) : RS := (rN ρ, rLe ρ, rSz ρ, rRe ρ, rSu ρ, rMd ρ, rNw ρ, rTb ρ, rCh ρ, rPr ρ - 1, rOn ρ, rTw ρ, rNu ρ, rNa ρ, rNd ρ, rSe ρ, rLo ρ)
def gClrT (ρ : RS) (i : Nat) : RS := (rN ρ, rLe ρ, rSz ρ, rRe ρ, rSu ρ, rMd ρ, rNw ρ, va_up (rTb ρ) i none, rCh ρ, rPr ρ, rOn ρ, rTw ρ, rNu ρ, rNa ρ, rNd ρ, rSe ρ, rLo ρ)
def gMrg (ρ : RS) (ls go : Nat) : RS := (rN ρ, rLe ρ, rSz ρ, rRe ρ, rSu ρ, rMd ρ, va_up (rNw ρ) go ls, rTb ρ, true, rPr ρ, rOn ρ, rTw ρ, rNu ρ, rNa ρ, rNd ρ, rSe ρ, rLo ρ)
def gJs (ρ : RS) (ls go x : Nat) : RS := match rTb ρ (6 * go + x) with | none => ρ | some d => gLearn (gClrT ρ (6 * go + x)) ls x d
def gJi (ρ : RS) (ls go : Nat) (x : Nat) : RS := match x with | 0 => ρ | x + 1 => gJs (gJi ρ ls go x) ls go x
def pA (ρ : RS) : Nat := rep (rNw ρ) (rOn ρ (rPr ρ - 1))
def pB (ρ : RS) : Nat := rep (rNw ρ) (rTw ρ (rPr ρ - 1))
def gPop (ρ : RS) : RS := if pA ρ = pB ρ then gDec ρ else if pA ρ < pB ρ then gJi (gMrg (gDec ρ) (pA ρ) (pB ρ)) (pA ρ) (pB ρ) 6 else gJi (gMrg (gDec ρ) (pB ρ) (pA ρ)) (pB ρ) (pA ρ) 6
def nmX (t : Nat → Option Nat) (nw : Nat → Nat) (c x : Nat) : Nat → Option Nat := match x with | 0 => t | x + 1 => va_up (nmX t nw c x) (6 * c + x) (match nmX t nw c x (6 * c + x) with | none => none | some d => some (rep nw d))
def nmC (t : Nat → Option Nat) (nw : Nat → Nat) (c : Nat) : Nat → Option Nat := match c with | 0 => t | c + 1 => if nw c = c then nmX (nmC t nw c) nw c 6 else nmC t nw c
def gNorm (ρ : RS) : RS := (rN ρ, rLe ρ, rSz ρ, rRe ρ, rSu ρ, rMd ρ, rNw ρ, nmC (rTb ρ) (rNw ρ) (rMd ρ), rCh ρ, rPr ρ, rOn ρ, rTw ρ, rNu ρ, rNa ρ, rNd ρ, rSe ρ, rLo ρ)
def LrnPre (β : RS) : Prop := BR β ∧ (∀ i, rNw β i ≤ i) ∧ rPr β + 2 ≤ 8000
def JoinOK (ρ : RS) (F : RS → Prop) : Prop := ∃ (I : RS → Prop) (μ : RS → Nat), I ρ ∧ (∀ τ, I τ → BR τ ∧ ∀ i, rNw τ i ≤ i) ∧ (∀ τ, I τ → 0 < rPr τ → ∀ ls go x, x < 6 → ls < go → ((ls = pA τ ∧ go = pB τ) ∨ (ls = pB τ ∧ go = pA τ)) → LrnPre (gJi (gMrg (gDec τ) ls go) ls go x)) ∧ (∀ τ, I τ → 0 < rPr τ → I (gPop τ) ∧ μ (gPop τ) < μ τ) ∧ ∀ τ, I τ → rPr τ = 0 → F (gNorm τ)
theorem BR.clr {ρ : RS} {i : Nat} (h : BR ρ) : BR (gClrT ρ i) := by
  obtain ⟨a1, a2, a3, a4, a5, a6, a7, a8, a9⟩ := h
  exact ⟨a1, a2, a3, a4, a5, a6, a7, fun j e q => up_some a8 (fun z hz => by cases hz) q, a9⟩
theorem nmX_lt {t : Nat → Option Nat} {nw : Nat → Nat} {c : Nat} (hnw : ∀ i, nw i ≤ i) (ht : ∀ i d, t i = some d → d < 200) (x : Nat) : ∀ i d, nmX t nw c x i = some d → d < 200 := by
  induction x with
  | zero => exact ht
  | succ x ih =>
    intro i d h
    rw [nmX] at h
    refine up_some ih (fun z hz => ?_) h
    cases e : nmX t nw c x (6 * c + x) with
    | none => rw [e] at hz; cases hz
    | some y =>
      rw [e] at hz; cases hz
      exact Nat.lt_of_le_of_lt (rep_le hnw y) (ih _ _ e)
theorem nmC_lt {t : Nat → Option Nat} {nw : Nat → Nat} (hnw : ∀ i, nw i ≤ i) (ht : ∀ i d, t i = some d → d < 200) (c : Nat) : ∀ i d, nmC t nw c i = some d → d < 200 := by
  induction c with
  | zero => exact ht
  | succ c ih =>
    rw [nmC]
    split
    · exact nmX_lt hnw ih 6
    · exact ih
set_option maxHeartbeats 4000000 in
set_option maxRecDepth 100000 in
/-- reference: join() -/
theorem m_join (l : Launch) (D : va_G) (cI cZ cW : ClassId) (g gL gS gW gT gO gP gU gA gE gQ : Nat) (ρ : RS) (I : RS → Prop) (μ : RS → Nat) (hI : I ρ) (hIB : ∀ τ, I τ → BR τ ∧ ∀ i, rNw τ i ≤ i) (hIj : ∀ τ, I τ → 0 < rPr τ → ∀ ls go x, x < 6 → ls < go → ((ls = pA τ ∧ go = pB τ) ∨ (ls = pB τ ∧ go = pA τ)) → LrnPre (gJi (gMrg (gDec τ) ls go) ls go x)) (hIs : ∀ τ, I τ → 0 < rPr τ → I (gPop τ) ∧ μ (gPop τ) < μ τ) : CtV l yX6_join cX6_join 7 none 2 50 0 0 D cI cZ cW [.ref g] (wR cI cZ g gL gS gW gT gO gP gU gA gE gQ ρ) ([]) (S := RS) (fun u => ∃ τ, I τ ∧ rPr τ = 0 ∧ u = gNorm τ) (fun u => wR cI cZ g gL gS gW gT gO gP gU gA gE gQ u) := by
  refine CtV.mk (by decide) (Nat.le_of_ble_eq_true rfl) ?_
  intro p e s m args below meth c A hc hr hlk hnm hro
  generalize hQ : MQ below _ args s 0 0 A = Q
  show V p l e (RM 2 50 0 0) s m args below meth c D A 7 0 0 Q (wR cI cZ g gL gS gW gT gO gP gU gA gE gQ ρ) 0 [(0, .ref g)] []
  have lp0 : ∀ (n : Nat) (τ : RS), μ τ = n → (I τ) → V p l e (RM 2 50 0 0) s m args below meth c D A 7 0 0 Q (wR cI cZ g gL gS gW gT gO gP gU gA gE gQ τ) 0 [(0, .ref g)] [] := by
    intro n
    induction n using Nat.strongRecOn with
    | _ n ih0 =>
    intro τ hm0 hIt
    obtain ⟨hBt, hnt⟩ := hIB τ hIt
    obtain ⟨tn, tLe, tSz, tRe, tSu, tMd, tNw, tTb, tPr, tOn, tTw, tNu, tNa, tNd, tLo⟩ := id hBt
    refine r_aload_n hc dX6_join_0 rfl 0 rfl ?_
    refine r_get hc inlX6 0 rfl rfl 9 (by decide) fl_X6_72 rfl rfl dX6_join_1 ?_
    refine n_if_le hc 148 dX6_join_4 (by decide) (by omega) (fun h1 => ?_) (fun h1 => ?_)
    · refine r_iconst (v := (nI 0)) hc dX6_join_148 rfl ?_
      refine r_istore_n (lv' := [(1, .int (nI 0)), (0, .ref g)]) hc dX6_join_149 rfl (by decide) rfl ?_
      have lp150 : ∀ (n : Nat) (k2 : Nat), rMd τ - k2 = n → (k2 ≤ rMd τ) → V p l e (RM 2 50 0 0) s m args below meth c D A 7 0 0 Q (wY cI cZ g gL gS gW gT gO gP gU gA gE gQ (rN τ) (rLe τ) (rSz τ) (rRe τ) (rSu τ) (rMd τ) (rNw τ) (nmC (rTb τ) (rNw τ) k2) (rCh τ) (rPr τ) (rOn τ) (rTw τ) (rNu τ) (rNa τ) (rNd τ) (rSe τ) (rLo τ)) 150 [(1, .int (nI k2)), (0, .ref g)] [] := by
        intro n
        induction n using Nat.strongRecOn with
        | _ n ih150 =>
        intro k2 hm150 hc1
        refine r_iload_n hc dX6_join_150 rfl 0 rfl ?_
        refine r_aload_n hc dX6_join_151 rfl 1 rfl ?_
        refine r_get hc inlX6 0 rfl rfl 5 (by decide) fl_X6_45 rfl rfl dX6_join_152 ?_
        refine n_icmp_ge hc 224 dX6_join_155 (by decide) (by omega) (by omega) (fun h2 => ?_) (fun h2 => ?_)
        · have hcm : k2 = rMd τ := by omega
          rw [hcm]
          show V p l e (RM 2 50 0 0) s m args below meth c D A 7 0 0 Q (wY cI cZ g gL gS gW gT gO gP gU gA gE gQ (rN τ) (rLe τ) (rSz τ) (rRe τ) (rSu τ) (rMd τ) (rNw τ) (nmC (rTb τ) (rNw τ) (rMd τ)) (rCh τ) (rPr τ) (rOn τ) (rTw τ) (rNu τ) (rNa τ) (rNd τ) (rSe τ) (rLo τ)) 224 [(1, .int (nI (rMd τ))), (0, .ref g)] []
          rw [← hQ]
          exact r_vret hc hr hlk (gNorm τ) ⟨τ, hIt, h1, rfl⟩ rfl dX6_join_224
        · refine r_iconst (v := (nI 0)) hc dX6_join_158 rfl ?_
          refine r_istore_n (lv' := [(2, .int (nI 0)), (1, .int (nI k2)), (0, .ref g)]) hc dX6_join_159 rfl (by decide) rfl ?_
          have lp160 : ∀ (n : Nat) (x : Nat), 6 - x = n → (x ≤ 6) → (0 < x → rNw τ k2 = k2) → (¬ rNw τ k2 = k2 → x = 0) → V p l e (RM 2 50 0 0) s m args below meth c D A 7 0 0 Q (wY cI cZ g gL gS gW gT gO gP gU gA gE gQ (rN τ) (rLe τ) (rSz τ) (rRe τ) (rSu τ) (rMd τ) (rNw τ) (nmX (nmC (rTb τ) (rNw τ) k2) (rNw τ) k2 x) (rCh τ) (rPr τ) (rOn τ) (rTw τ) (rNu τ) (rNa τ) (rNd τ) (rSe τ) (rLo τ)) 160 [(2, .int (nI x)), (1, .int (nI k2)), (0, .ref g)] [] := by
            intro n
            induction n using Nat.strongRecOn with
            | _ n ih160 =>
            intro x hm160 hx hxs hx0
            have hBn : BR (rN τ, rLe τ, rSz τ, rRe τ, rSu τ, rMd τ, rNw τ, nmX (nmC (rTb τ) (rNw τ) k2) (rNw τ) k2 x, rCh τ, rPr τ, rOn τ, rTw τ, rNu τ, rNa τ, rNd τ, rSe τ, rLo τ) := ⟨tn, tLe, tSz, tRe, tSu, tMd, tNw, nmX_lt hnt (nmC_lt hnt tTb k2) x, tPr, tOn, tTw, tNu, tNa, tNd, tLo⟩
            refine r_iload_n hc dX6_join_160 rfl 0 rfl ?_
            refine r_bipush (v := (nI 6)) hc dX6_join_161 rfl ?_
            refine n_icmp_ge hc 218 dX6_join_163 (by decide) (by omega) (by omega) (fun h3 => ?_) (fun h3 => ?_)
            · refine r_iinc (k := 1) (v := (nI (k2 + 1))) (lv' := [(1, .int (nI (k2 + 1))), (2, .int (nI x)), (0, .ref g)]) hc dX6_join_218 rfl (nI_add _ _) (by decide) rfl ?_
              refine r_goto hc 150 dX6_join_221 (by decide) ?_
              refine r_lv [2, 0] rfl ?_
              have hnx : nmX (nmC (rTb τ) (rNw τ) k2) (rNw τ) k2 x = nmC (rTb τ) (rNw τ) (k2 + 1) := by rw [nmC, if_pos (hxs (by omega)), show x = 6 by omega]
              rw [hnx]
              show V p l e (RM 2 50 0 0) s m args below meth c D A 7 0 0 Q (wY cI cZ g gL gS gW gT gO gP gU gA gE gQ (rN τ) (rLe τ) (rSz τ) (rRe τ) (rSu τ) (rMd τ) (rNw τ) (nmC (rTb τ) (rNw τ) (k2 + 1)) (rCh τ) (rPr τ) (rOn τ) (rTw τ) (rNu τ) (rNa τ) (rNd τ) (rSe τ) (rLo τ)) 150 [(0, .ref g), (1, .int (nI (k2 + 1)))] []
              refine r_lv [1, 0] rfl ?_
              exact ih150 _ (by omega) (k2 + 1) rfl (by omega)
            · refine r_aload_n hc dX6_join_166 rfl 2 rfl ?_
              refine r_get hc inlX6 0 rfl rfl 6 (by decide) fl_X6_16 rfl rfl dX6_join_167 ?_
              refine r_iload_n hc dX6_join_170 rfl 1 rfl ?_
              have b4 := tNw k2
              refine r_iald hc nI 3 rfl (by omega) (by decide) dX6_join_171 ?_
              refine r_iload_n hc dX6_join_172 rfl 1 rfl ?_
              refine n_icmp_ne hc 218 dX6_join_173 (by decide) (by omega) (by omega) (fun h5 => ?_) (fun h5 => ?_)
              · refine r_iinc (k := 1) (v := (nI (k2 + 1))) (lv' := [(1, .int (nI (k2 + 1))), (2, .int (nI x)), (0, .ref g)]) hc dX6_join_218 rfl (nI_add _ _) (by decide) rfl ?_
                refine r_goto hc 150 dX6_join_221 (by decide) ?_
                refine r_lv [2, 0] rfl ?_
                have hnx : nmX (nmC (rTb τ) (rNw τ) k2) (rNw τ) k2 x = nmC (rTb τ) (rNw τ) (k2 + 1) := by rw [nmC, if_neg h5, hx0 h5]; rfl
                rw [hnx]
                show V p l e (RM 2 50 0 0) s m args below meth c D A 7 0 0 Q (wY cI cZ g gL gS gW gT gO gP gU gA gE gQ (rN τ) (rLe τ) (rSz τ) (rRe τ) (rSu τ) (rMd τ) (rNw τ) (nmC (rTb τ) (rNw τ) (k2 + 1)) (rCh τ) (rPr τ) (rOn τ) (rTw τ) (rNu τ) (rNa τ) (rNd τ) (rSe τ) (rLo τ)) 150 [(0, .ref g), (1, .int (nI (k2 + 1)))] []
                refine r_lv [1, 0] rfl ?_
                exact ih150 _ (by omega) (k2 + 1) rfl (by omega)
              · refine r_aload_n hc dX6_join_176 rfl 2 rfl ?_
                refine r_get hc inlX6 0 rfl rfl 7 (by decide) fl_X6_19 rfl rfl dX6_join_177 ?_
                refine r_bipush (v := (nI 6)) hc dX6_join_180 rfl ?_
                refine r_iload_n hc dX6_join_182 rfl 1 rfl ?_
                refine n_mul hc dX6_join_183 ?_
                refine r_iload_n hc dX6_join_184 rfl 0 rfl ?_
                refine n_add hc dX6_join_185 ?_
                refine r_iald hc eI 4 rfl (by omega) (by decide) dX6_join_186 ?_
                refine r_istore_n (lv' := [(3, .int (eI ((nmX (nmC (rTb τ) (rNw τ) k2) (rNw τ) k2 x) ((6 * k2) + x)))), (2, .int (nI x)), (1, .int (nI k2)), (0, .ref g)]) hc dX6_join_187 rfl (by decide) rfl ?_
                refine r_aload_n hc dX6_join_188 rfl 3 rfl ?_
                refine r_get hc inlX6 0 rfl rfl 7 (by decide) fl_X6_19 rfl rfl dX6_join_189 ?_
                refine r_bipush (v := (nI 6)) hc dX6_join_192 rfl ?_
                refine r_iload_n hc dX6_join_194 rfl 2 rfl ?_
                refine n_mul hc dX6_join_195 ?_
                refine r_iload_n hc dX6_join_196 rfl 1 rfl ?_
                refine n_add hc dX6_join_197 ?_
                refine r_iload_n hc dX6_join_198 rfl 0 rfl ?_
                refine e_if_ge hc 206 dX6_join_199 (by decide) (fun d h => Nat.lt_trans (nmX_lt hnt (nmC_lt hnt tTb k2) x _ d h) (by decide)) (fun d7 h6 => ?_) (fun h6 => ?_)
                · rw [h6]
                  show V _ _ _ _ _ _ _ _ _ _ _ _ _ _ _ _ _ _ [(3, .int (nI d7)), (2, .int (nI x)), (1, .int (nI k2)), (0, .ref g)] [.int (nI ((6 * k2) + x)), .ref gT]
                  refine r_aload_n hc dX6_join_206 rfl 3 rfl ?_
                  refine r_iload_n hc dX6_join_207 rfl 0 rfl ?_
                  refine r_callI (As := [.int (nI d7)]) (n := 1) (wr := wY cI cZ g gL gS gW gT gO gP gU gA gE gQ (rN τ) (rLe τ) (rSz τ) (rRe τ) (rSu τ) (rMd τ) (rNw τ) (nmX (nmC (rTb τ) (rNw τ) k2) (rNw τ) k2 x) (rCh τ) (rPr τ) (rOn τ) (rTw τ) (rNu τ) (rNa τ) (rNd τ) (rSe τ) (rLo τ)) hc (m_real l D cI cZ cW g gL gS gW gT gO gP gU gA gE gQ (rN τ, rLe τ, rSz τ, rRe τ, rSu τ, rMd τ, rNw τ, nmX (nmC (rTb τ) (rNw τ) k2) (rNw τ) k2 x, rCh τ, rPr τ, rOn τ, rTw τ, rNu τ, rNa τ, rNd τ, rSe τ, rLo τ) d7 (nmX_lt hnt (nmC_lt hnt tTb k2) x _ _ h6) hnt hBn) co_yX6_real in_X6 ml_X6_75 (by decide +kernel) rfl ⟨by decide, by decide⟩ ⟨by decide, by decide⟩ im_yX6_real se_yX6_real rfl (Or.inl ⟨0, _, rfl⟩) rfl (Nat.le_of_ble_eq_true rfl) [] [0, 1, 2, 3, 4, 5, 6, 7, 8, 9, 10] rfl rfl rfl rfl (by decide) (fun q hq => Or.inl ((List.getElem?_of_mem hq).elim fun k hk => ⟨k, hk, List.not_mem_nil⟩)) dX6_join_208 (fun r8 u9 e10 => ?_)
                  subst e10
                  show V p l e (RM 2 50 0 0) s m args below meth c D A 7 0 0 Q (wY cI cZ g gL gS gW gT gO gP gU gA gE gQ (rN τ) (rLe τ) (rSz τ) (rRe τ) (rSu τ) (rMd τ) (rNw τ) (nmX (nmC (rTb τ) (rNw τ) k2) (rNw τ) k2 x) (rCh τ) (rPr τ) (rOn τ) (rTw τ) (rNu τ) (rNa τ) (rNd τ) (rSe τ) (rLo τ)) 211 [(3, .int (nI d7)), (2, .int (nI x)), (1, .int (nI k2)), (0, .ref g)] [.int (nI (rep (rNw τ) d7)), .int (nI ((6 * k2) + x)), .ref gT]
                  refine r_iast (ws' := wY cI cZ g gL gS gW gT gO gP gU gA gE gQ (rN τ) (rLe τ) (rSz τ) (rRe τ) (rSu τ) (rMd τ) (rNw τ) (va_up (nmX (nmC (rTb τ) (rNw τ) k2) (rNw τ) k2 x) ((6 * k2) + x) (some (rep (rNw τ) d7))) (rCh τ) (rPr τ) (rOn τ) (rTw τ) (rNu τ) (rNa τ) (rNd τ) (rSe τ) (rLo τ)) hc eI (some (rep (rNw τ) d7)) 4 rfl (by omega) (by decide) rfl dX6_join_211 ?_
                  refine r_iinc (k := 1) (v := (nI (x + 1))) (lv' := [(2, .int (nI (x + 1))), (3, .int (nI d7)), (1, .int (nI k2)), (0, .ref g)]) hc dX6_join_212 rfl (nI_add _ _) (by decide) rfl ?_
                  refine r_goto hc 160 dX6_join_215 (by decide) ?_
                  refine r_lv [3, 2, 0] rfl ?_
                  have hnx : va_up (nmX (nmC (rTb τ) (rNw τ) k2) (rNw τ) k2 x) ((6 * k2) + x) (some (rep (rNw τ) d7)) = nmX (nmC (rTb τ) (rNw τ) k2) (rNw τ) k2 (x + 1) := by rw [nmX, h6]
                  rw [hnx]
                  show V p l e (RM 2 50 0 0) s m args below meth c D A 7 0 0 Q (wY cI cZ g gL gS gW gT gO gP gU gA gE gQ (rN τ) (rLe τ) (rSz τ) (rRe τ) (rSu τ) (rMd τ) (rNw τ) (nmX (nmC (rTb τ) (rNw τ) k2) (rNw τ) k2 (x + 1)) (rCh τ) (rPr τ) (rOn τ) (rTw τ) (rNu τ) (rNa τ) (rNd τ) (rSe τ) (rLo τ)) 160 [(0, .ref g), (1, .int (nI k2)), (2, .int (nI (x + 1)))] []
                  refine r_lv [2, 1, 0] rfl ?_
                  exact ih160 _ (by omega) (x + 1) rfl (by omega) (fun _ => h5) (fun q => absurd h5 q)
                · refine r_iconst (v := (-1)) hc dX6_join_202 rfl ?_
                  refine r_goto hc 211 dX6_join_203 (by decide) ?_
                  refine r_iast (ws' := wY cI cZ g gL gS gW gT gO gP gU gA gE gQ (rN τ) (rLe τ) (rSz τ) (rRe τ) (rSu τ) (rMd τ) (rNw τ) (va_up (nmX (nmC (rTb τ) (rNw τ) k2) (rNw τ) k2 x) ((6 * k2) + x) none) (rCh τ) (rPr τ) (rOn τ) (rTw τ) (rNu τ) (rNa τ) (rNd τ) (rSe τ) (rLo τ)) hc eI none 4 rfl (by omega) (by decide) rfl dX6_join_211 ?_
                  refine r_iinc (k := 1) (v := (nI (x + 1))) (lv' := [(2, .int (nI (x + 1))), (3, .int (eI ((nmX (nmC (rTb τ) (rNw τ) k2) (rNw τ) k2 x) ((6 * k2) + x)))), (1, .int (nI k2)), (0, .ref g)]) hc dX6_join_212 rfl (nI_add _ _) (by decide) rfl ?_
                  refine r_goto hc 160 dX6_join_215 (by decide) ?_
                  refine r_lv [3, 2, 0] rfl ?_
                  have hnx : va_up (nmX (nmC (rTb τ) (rNw τ) k2) (rNw τ) k2 x) ((6 * k2) + x) none = nmX (nmC (rTb τ) (rNw τ) k2) (rNw τ) k2 (x + 1) := by rw [nmX, h6]
                  rw [hnx]
                  show V p l e (RM 2 50 0 0) s m args below meth c D A 7 0 0 Q (wY cI cZ g gL gS gW gT gO gP gU gA gE gQ (rN τ) (rLe τ) (rSz τ) (rRe τ) (rSu τ) (rMd τ) (rNw τ) (nmX (nmC (rTb τ) (rNw τ) k2) (rNw τ) k2 (x + 1)) (rCh τ) (rPr τ) (rOn τ) (rTw τ) (rNu τ) (rNa τ) (rNd τ) (rSe τ) (rLo τ)) 160 [(0, .ref g), (1, .int (nI k2)), (2, .int (nI (x + 1)))] []
                  refine r_lv [2, 1, 0] rfl ?_
                  exact ih160 _ (by omega) (x + 1) rfl (by omega) (fun _ => h5) (fun q => absurd h5 q)
          refine r_lv [0, 1, 2] rfl ?_
          exact lp160 _ 0 rfl (by decide) (fun q => absurd q (by decide)) (fun _ => rfl)
      refine r_lv [0, 1] rfl ?_
      exact lp150 _ 0 rfl (Nat.zero_le _)
    · refine r_aload_n hc dX6_join_7 rfl 0 rfl ?_
      refine r_dup hc dX6_join_8 rfl ?_
      refine r_get hc inlX6 0 rfl rfl 9 (by decide) fl_X6_72 rfl rfl dX6_join_9 ?_
      refine r_iconst (v := (nI 1)) hc dX6_join_12 rfl ?_
      refine n_sub hc dX6_join_13 (by omega) ?_
      refine r_put (ws' := wY cI cZ g gL gS gW gT gO gP gU gA gE gQ (rN τ) (rLe τ) (rSz τ) (rRe τ) (rSu τ) (rMd τ) (rNw τ) (rTb τ) (rCh τ) ((rPr τ) - 1) (rOn τ) (rTw τ) (rNu τ) (rNa τ) (rNd τ) (rSe τ) (rLo τ)) hc inlX6 tyX6 tyX6_ok nmX6 0 rfl rfl 9 (by decide) fl_X6_72 rfl rfl rfl rfl (Nat.le_of_ble_eq_true rfl) rfl dX6_join_14 ?_
      show V p l e (RM 2 50 0 0) s m args below meth c D A 7 0 0 Q (wR cI cZ g gL gS gW gT gO gP gU gA gE gQ (gDec τ)) 17 [(0, .ref g)] []
      have hBd : BR (gDec τ) := ⟨tn, tLe, tSz, tRe, tSu, tMd, tNw, tTb, by show rPr τ - 1 ≤ 8000; omega, tOn, tTw, tNu, tNa, tNd, tLo⟩
      have hnd : ∀ i, rNw (gDec τ) i ≤ i := hnt
      show V p l e (RM 2 50 0 0) s m args below meth c D A 7 0 0 Q (wY cI cZ g gL gS gW gT gO gP gU gA gE gQ (rN τ) (rLe τ) (rSz τ) (rRe τ) (rSu τ) (rMd τ) (rNw τ) (rTb τ) (rCh τ) (rPr τ - 1) (rOn τ) (rTw τ) (rNu τ) (rNa τ) (rNd τ) (rSe τ) (rLo τ)) 17 [(0, .ref g)] []
      refine r_aload_n hc dX6_join_17 rfl 0 rfl ?_
      refine r_aload_n hc dX6_join_18 rfl 0 rfl ?_
      refine r_get hc inlX6 0 rfl rfl 10 (by decide) fl_X6_22 rfl rfl dX6_join_19 ?_
      refine r_aload_n hc dX6_join_22 rfl 0 rfl ?_
      refine r_get hc inlX6 0 rfl rfl 9 (by decide) fl_X6_72 rfl rfl dX6_join_23 ?_
      have b11 := tOn (rPr τ - 1)
      refine r_iald hc nI 5 rfl (by omega) (by decide) dX6_join_26 ?_
      refine r_callI (As := [.int (nI ((rOn τ) (rPr τ - 1)))]) (n := 1) (wr := wY cI cZ g gL gS gW gT gO gP gU gA gE gQ (rN τ) (rLe τ) (rSz τ) (rRe τ) (rSu τ) (rMd τ) (rNw τ) (rTb τ) (rCh τ) (rPr τ - 1) (rOn τ) (rTw τ) (rNu τ) (rNa τ) (rNd τ) (rSe τ) (rLo τ)) hc (m_real l D cI cZ cW g gL gS gW gT gO gP gU gA gE gQ (gDec τ) ((rOn τ) (rPr τ - 1)) (tOn _) hnd hBd) co_yX6_real in_X6 ml_X6_75 (by decide +kernel) rfl ⟨by decide, by decide⟩ ⟨by decide, by decide⟩ im_yX6_real se_yX6_real rfl (Or.inl ⟨0, _, rfl⟩) rfl (Nat.le_of_ble_eq_true rfl) [] [0, 1, 2, 3, 4, 5, 6, 7, 8, 9, 10] rfl rfl rfl rfl (by decide) (fun q hq => Or.inl ((List.getElem?_of_mem hq).elim fun k hk => ⟨k, hk, List.not_mem_nil⟩)) dX6_join_27 (fun r12 u13 e14 => ?_)
      subst e14
      show V p l e (RM 2 50 0 0) s m args below meth c D A 7 0 0 Q (wY cI cZ g gL gS gW gT gO gP gU gA gE gQ (rN τ) (rLe τ) (rSz τ) (rRe τ) (rSu τ) (rMd τ) (rNw τ) (rTb τ) (rCh τ) (rPr τ - 1) (rOn τ) (rTw τ) (rNu τ) (rNa τ) (rNd τ) (rSe τ) (rLo τ)) 30 [(0, .ref g)] [.int (nI (pA τ))]
      have hb27 : pA τ < 200 := Nat.lt_of_le_of_lt (rep_le hnt _) (tOn _)
      refine r_istore_n (lv' := [(1, .int (nI (pA τ))), (0, .ref g)]) hc dX6_join_30 rfl (by decide) rfl ?_
      refine r_aload_n hc dX6_join_31 rfl 1 rfl ?_
      refine r_aload_n hc dX6_join_32 rfl 1 rfl ?_
      refine r_get hc inlX6 0 rfl rfl 11 (by decide) fl_X6_25 rfl rfl dX6_join_33 ?_
      refine r_aload_n hc dX6_join_36 rfl 1 rfl ?_
      refine r_get hc inlX6 0 rfl rfl 9 (by decide) fl_X6_72 rfl rfl dX6_join_37 ?_
      have b15 := tTw (rPr τ - 1)
      refine r_iald hc nI 6 rfl (by omega) (by decide) dX6_join_40 ?_
      refine r_callI (As := [.int (nI ((rTw τ) (rPr τ - 1)))]) (n := 1) (wr := wY cI cZ g gL gS gW gT gO gP gU gA gE gQ (rN τ) (rLe τ) (rSz τ) (rRe τ) (rSu τ) (rMd τ) (rNw τ) (rTb τ) (rCh τ) (rPr τ - 1) (rOn τ) (rTw τ) (rNu τ) (rNa τ) (rNd τ) (rSe τ) (rLo τ)) hc (m_real l D cI cZ cW g gL gS gW gT gO gP gU gA gE gQ (gDec τ) ((rTw τ) (rPr τ - 1)) (tTw _) hnd hBd) co_yX6_real in_X6 ml_X6_75 (by decide +kernel) rfl ⟨by decide, by decide⟩ ⟨by decide, by decide⟩ im_yX6_real se_yX6_real rfl (Or.inl ⟨0, _, rfl⟩) rfl (Nat.le_of_ble_eq_true rfl) [] [0, 1, 2, 3, 4, 5, 6, 7, 8, 9, 10] rfl rfl rfl rfl (by decide) (fun q hq => Or.inl ((List.getElem?_of_mem hq).elim fun k hk => ⟨k, hk, List.not_mem_nil⟩)) dX6_join_41 (fun r16 u17 e18 => ?_)
      subst e18
      show V p l e (RM 2 50 0 0) s m args below meth c D A 7 0 0 Q (wY cI cZ g gL gS gW gT gO gP gU gA gE gQ (rN τ) (rLe τ) (rSz τ) (rRe τ) (rSu τ) (rMd τ) (rNw τ) (rTb τ) (rCh τ) (rPr τ - 1) (rOn τ) (rTw τ) (rNu τ) (rNa τ) (rNd τ) (rSe τ) (rLo τ)) 44 [(1, .int (nI (pA τ))), (0, .ref g)] [.int (nI (pB τ))]
      have hb41 : pB τ < 200 := Nat.lt_of_le_of_lt (rep_le hnt _) (tTw _)
      refine r_istore_n (lv' := [(2, .int (nI (pB τ))), (1, .int (nI (pA τ))), (0, .ref g)]) hc dX6_join_44 rfl (by decide) rfl ?_
      refine r_iload_n hc dX6_join_45 rfl 1 rfl ?_
      refine r_iload_n hc dX6_join_46 rfl 0 rfl ?_
      refine n_icmp_eq hc 145 dX6_join_47 (by decide) (by omega) (by omega) (fun h19 => ?_) (fun h19 => ?_)
      · refine r_goto hc 0 dX6_join_145 (by decide) ?_
        refine r_lv [2] rfl ?_
        have hPop : (gDec τ) = gPop τ := (if_pos h19).symm
        refine r_weq (ws' := wR cI cZ g gL gS gW gT gO gP gU gA gE gQ (gPop τ)) (congrArg (wR cI cZ g gL gS gW gT gO gP gU gA gE gQ) hPop) ?_
        refine r_lv [0] rfl ?_
        exact ih0 _ (by rw [← hm0]; exact (hIs τ hIt h1).2) (gPop τ) rfl (hIs τ hIt h1).1
      · refine r_iload_n hc dX6_join_50 rfl 1 rfl ?_
        refine r_iload_n hc dX6_join_51 rfl 0 rfl ?_
        refine n_icmp_ge hc 59 dX6_join_52 (by decide) (by omega) (by omega) (fun h20 => ?_) (fun h20 => ?_)
        · refine r_iload_n hc dX6_join_59 rfl 0 rfl ?_
          refine r_istore_n (lv' := [(3, .int (nI (pB τ))), (2, .int (nI (pB τ))), (1, .int (nI (pA τ))), (0, .ref g)]) hc dX6_join_60 rfl (by decide) rfl ?_
          refine r_iload_n hc dX6_join_61 rfl 2 rfl ?_
          refine r_iload_n hc dX6_join_62 rfl 1 rfl ?_
          refine n_icmp_ge hc 70 dX6_join_63 (by decide) (by omega) (by omega) (fun h21 => ?_) (fun h21 => ?_)
          · refine r_iload_n hc dX6_join_70 rfl 2 rfl ?_
            refine r_istore (lv' := [(4, .int (nI (pA τ))), (3, .int (nI (pB τ))), (2, .int (nI (pB τ))), (1, .int (nI (pA τ))), (0, .ref g)]) hc dX6_join_71 (by decide) rfl ?_
            refine r_aload_n hc dX6_join_73 rfl 4 rfl ?_
            refine r_get hc inlX6 0 rfl rfl 6 (by decide) fl_X6_16 rfl rfl dX6_join_74 ?_
            refine r_iload hc dX6_join_77 0 rfl ?_
            refine r_iload_n hc dX6_join_79 rfl 1 rfl ?_
            refine r_iast (ws' := wY cI cZ g gL gS gW gT gO gP gU gA gE gQ (rN τ) (rLe τ) (rSz τ) (rRe τ) (rSu τ) (rMd τ) (va_up (rNw τ) (pA τ) (pB τ)) (rTb τ) (rCh τ) (rPr τ - 1) (rOn τ) (rTw τ) (rNu τ) (rNa τ) (rNd τ) (rSe τ) (rLo τ)) hc nI (pB τ) 3 rfl (by omega) (by decide) rfl dX6_join_80 ?_
            refine r_aload_n hc dX6_join_81 rfl 4 rfl ?_
            refine r_iconst (v := (nI 1)) hc dX6_join_82 rfl ?_
            refine r_put (ws' := wY cI cZ g gL gS gW gT gO gP gU gA gE gQ (rN τ) (rLe τ) (rSz τ) (rRe τ) (rSu τ) (rMd τ) (va_up (rNw τ) (pA τ) (pB τ)) (rTb τ) true (rPr τ - 1) (rOn τ) (rTw τ) (rNu τ) (rNa τ) (rNd τ) (rSe τ) (rLo τ)) hc inlX6 tyX6 tyX6_ok nmX6 0 rfl rfl 8 (by decide) fl_X6_78 rfl rfl rfl rfl (Nat.le_of_ble_eq_true rfl) rfl dX6_join_83 ?_
            refine r_iconst (v := (nI 0)) hc dX6_join_86 rfl ?_
            refine r_istore (lv' := [(5, .int (nI 0)), (4, .int (nI (pA τ))), (3, .int (nI (pB τ))), (2, .int (nI (pB τ))), (1, .int (nI (pA τ))), (0, .ref g)]) hc dX6_join_87 (by decide) rfl ?_
            show V p l e (RM 2 50 0 0) s m args below meth c D A 7 0 0 Q (wR cI cZ g gL gS gW gT gO gP gU gA gE gQ (gMrg (gDec τ) (pB τ) (pA τ))) 89 [(5, .int (nI 0)), (4, .int (nI (pA τ))), (3, .int (nI (pB τ))), (2, .int (nI (pB τ))), (1, .int (nI (pA τ))), (0, .ref g)] []
            have lp89 : ∀ (n : Nat) (x : Nat), 6 - x = n → (x ≤ 6) → V p l e (RM 2 50 0 0) s m args below meth c D A 7 0 0 Q (wR cI cZ g gL gS gW gT gO gP gU gA gE gQ (gJi (gMrg (gDec τ) (pB τ) (pA τ)) (pB τ) (pA τ) x)) 89 [(5, .int (nI x)), (4, .int (nI (pA τ))), (3, .int (nI (pB τ))), (2, .int (nI (pB τ))), (1, .int (nI (pA τ))), (0, .ref g)] [] := by
              intro n
              induction n using Nat.strongRecOn with
              | _ n ih89 =>
              intro x hm89 hx
              obtain ⟨β, hβ⟩ : ∃ q, q = gJi (gMrg (gDec τ) (pB τ) (pA τ)) (pB τ) (pA τ) x := ⟨_, rfl⟩
              rw [← hβ]
              refine r_iload hc dX6_join_89 0 rfl ?_
              refine r_bipush (v := (nI 6)) hc dX6_join_91 rfl ?_
              refine n_icmp_ge hc 145 dX6_join_93 (by decide) (by omega) (by omega) (fun h22 => ?_) (fun h22 => ?_)
              · obtain rfl : x = 6 := by omega
                subst hβ
                show V p l e (RM 2 50 0 0) s m args below meth c D A 7 0 0 Q (wR cI cZ g gL gS gW gT gO gP gU gA gE gQ (gJi (gMrg (gDec τ) (pB τ) (pA τ)) (pB τ) (pA τ) 6)) 145 [(5, .int (nI 6)), (4, .int (nI (pA τ))), (3, .int (nI (pB τ))), (2, .int (nI (pB τ))), (1, .int (nI (pA τ))), (0, .ref g)] []
                refine r_goto hc 0 dX6_join_145 (by decide) ?_
                refine r_lv [5] rfl ?_
                have hPop : (gJi (gMrg (gDec τ) (pB τ) (pA τ)) (pB τ) (pA τ) 6) = gPop τ := ((if_neg h19).trans (if_neg (Nat.not_lt.mpr h20))).symm
                refine r_weq (ws' := wR cI cZ g gL gS gW gT gO gP gU gA gE gQ (gPop τ)) (congrArg (wR cI cZ g gL gS gW gT gO gP gU gA gE gQ) hPop) ?_
                refine r_lv [0] rfl ?_
                exact ih0 _ (by rw [← hm0]; exact (hIs τ hIt h1).2) (gPop τ) rfl (hIs τ hIt h1).1
              · have hL := hIj τ hIt h1 (pB τ) (pA τ) x h22 (by omega) (Or.inr ⟨rfl, rfl⟩)
                rw [← hβ] at hL
                obtain ⟨hBb, hnb, hpb⟩ := hL
                have bbT := hBb.2.2.2.2.2.2.2.1
                refine r_aload_n hc dX6_join_96 rfl 5 rfl ?_
                refine r_get hc inlX6 0 rfl rfl 7 (by decide) fl_X6_19 rfl rfl dX6_join_97 ?_
                refine r_bipush (v := (nI 6)) hc dX6_join_100 rfl ?_
                refine r_iload hc dX6_join_102 1 rfl ?_
                refine n_mul hc dX6_join_104 ?_
                refine r_iload hc dX6_join_105 0 rfl ?_
                refine n_add hc dX6_join_107 ?_
                refine r_iald hc eI 4 rfl (by omega) (by decide) dX6_join_108 ?_
                refine r_istore (lv' := [(6, .int (eI ((rTb β) ((6 * (pA τ)) + x)))), (5, .int (nI x)), (4, .int (nI (pA τ))), (3, .int (nI (pB τ))), (2, .int (nI (pB τ))), (1, .int (nI (pA τ))), (0, .ref g)]) hc dX6_join_109 (by decide) rfl ?_
                refine r_iload hc dX6_join_111 0 rfl ?_
                refine e_if_lt hc 139 dX6_join_113 (by decide) (fun d h => Nat.lt_trans (bbT _ d h) (by decide)) (fun h23 => ?_) (fun d24 h23 => ?_)
                · refine r_lv [6, 5, 4, 3, 2, 1] rfl ?_
                  have hnx : β = (gJi (gMrg (gDec τ) (pB τ) (pA τ)) (pB τ) (pA τ) (x + 1)) := by rw [gJi, ← hβ]; unfold gJs; rw [h23]
                  refine r_weq (ws' := wR cI cZ g gL gS gW gT gO gP gU gA gE gQ (gJi (gMrg (gDec τ) (pB τ) (pA τ)) (pB τ) (pA τ) (x + 1))) (congrArg (wR cI cZ g gL gS gW gT gO gP gU gA gE gQ) hnx) ?_
                  refine r_iinc (k := 5) (v := (nI (x + 1))) (lv' := [(5, .int (nI (x + 1))), (0, .ref g), (1, .int (nI (pA τ))), (2, .int (nI (pB τ))), (3, .int (nI (pB τ))), (4, .int (nI (pA τ)))]) hc dX6_join_139 rfl (nI_add _ _) (by decide) rfl ?_
                  refine r_goto hc 89 dX6_join_142 (by decide) ?_
                  refine r_lv [0, 5, 4, 3, 2, 1] rfl ?_
                  exact ih89 _ (by omega) (x + 1) rfl (by omega)
                · rw [h23]
                  show V _ _ _ _ _ _ _ _ _ _ _ _ _ _ _ _ _ _ [(6, .int (nI d24)), (5, .int (nI x)), (4, .int (nI (pA τ))), (3, .int (nI (pB τ))), (2, .int (nI (pB τ))), (1, .int (nI (pA τ))), (0, .ref g)] []
                  refine r_aload_n hc dX6_join_116 rfl 6 rfl ?_
                  refine r_get hc inlX6 0 rfl rfl 7 (by decide) fl_X6_19 rfl rfl dX6_join_117 ?_
                  refine r_bipush (v := (nI 6)) hc dX6_join_120 rfl ?_
                  refine r_iload hc dX6_join_122 2 rfl ?_
                  refine n_mul hc dX6_join_124 ?_
                  refine r_iload hc dX6_join_125 1 rfl ?_
                  refine n_add hc dX6_join_127 ?_
                  refine r_iconst (v := (-1)) hc dX6_join_128 rfl ?_
                  refine r_iast (ws' := wY cI cZ g gL gS gW gT gO gP gU gA gE gQ (rN β) (rLe β) (rSz β) (rRe β) (rSu β) (rMd β) (rNw β) (va_up (rTb β) ((6 * (pA τ)) + x) none) (rCh β) (rPr β) (rOn β) (rTw β) (rNu β) (rNa β) (rNd β) (rSe β) (rLo β)) hc eI none 4 rfl (by omega) (by decide) rfl dX6_join_129 ?_
                  refine r_aload_n hc dX6_join_130 rfl 6 rfl ?_
                  refine r_iload_n hc dX6_join_131 rfl 3 rfl ?_
                  refine r_iload hc dX6_join_132 1 rfl ?_
                  refine r_iload hc dX6_join_134 0 rfl ?_
                  show V p l e (RM 2 50 0 0) s m args below meth c D A 7 0 0 Q (wR cI cZ g gL gS gW gT gO gP gU gA gE gQ (gClrT β (6 * (pA τ) + x))) 136 [(6, .int (nI d24)), (5, .int (nI x)), (4, .int (nI (pA τ))), (3, .int (nI (pB τ))), (2, .int (nI (pB τ))), (1, .int (nI (pA τ))), (0, .ref g)] [.int (nI d24), .int (nI x), .int (nI (pB τ)), .ref g]
                  refine r_callV (As := [.int (nI (pB τ)), .int (nI x), .int (nI d24)]) (n := 3) (wr := []) hc (m_learn l D cI cZ cW g gL gS gW gT gO gP gU gA gE gQ (gClrT β (6 * (pA τ) + x)) (pB τ) x d24 (by omega) (by omega) (bbT _ _ h23) hnb hpb hBb.clr) co_yX6_learn in_X6 ml_X6_86 (by decide +kernel) rfl ⟨by decide, by decide⟩ ⟨by decide, by decide⟩ im_yX6_learn se_yX6_learn rfl (Or.inl ⟨0, _, rfl⟩) rfl (Nat.le_of_ble_eq_true rfl) [0, 1, 2, 3, 4, 5, 6, 7, 8, 9, 10] [] rfl rfl rfl rfl (by decide) (fun q hq => absurd hq List.not_mem_nil) dX6_join_136 (fun u1 e25 => ?_)
                  show V p l e (RM 2 50 0 0) s m args below meth c D A 7 0 0 Q (wR cI cZ g gL gS gW gT gO gP gU gA gE gQ u1) 139 [(6, .int (nI d24)), (5, .int (nI x)), (4, .int (nI (pA τ))), (3, .int (nI (pB τ))), (2, .int (nI (pB τ))), (1, .int (nI (pA τ))), (0, .ref g)] []
                  refine r_lv [6, 5, 4, 3, 2, 1] rfl ?_
                  have hnx : u1 = (gJi (gMrg (gDec τ) (pB τ) (pA τ)) (pB τ) (pA τ) (x + 1)) := by rw [gJi, ← hβ, e25]; unfold gJs; rw [h23]
                  refine r_weq (ws' := wR cI cZ g gL gS gW gT gO gP gU gA gE gQ (gJi (gMrg (gDec τ) (pB τ) (pA τ)) (pB τ) (pA τ) (x + 1))) (congrArg (wR cI cZ g gL gS gW gT gO gP gU gA gE gQ) hnx) ?_
                  refine r_iinc (k := 5) (v := (nI (x + 1))) (lv' := [(5, .int (nI (x + 1))), (0, .ref g), (1, .int (nI (pA τ))), (2, .int (nI (pB τ))), (3, .int (nI (pB τ))), (4, .int (nI (pA τ)))]) hc dX6_join_139 rfl (nI_add _ _) (by decide) rfl ?_
                  refine r_goto hc 89 dX6_join_142 (by decide) ?_
                  refine r_lv [0, 5, 4, 3, 2, 1] rfl ?_
                  exact ih89 _ (by omega) (x + 1) rfl (by omega)
            refine r_lv [0, 1, 2, 3, 4, 5] rfl ?_
            exact lp89 _ 0 rfl (by decide)
          · exact absurd h21 (by omega)
        · refine r_iload_n hc dX6_join_55 rfl 1 rfl ?_
          refine r_goto hc 60 dX6_join_56 (by decide) ?_
          refine r_istore_n (lv' := [(3, .int (nI (pA τ))), (2, .int (nI (pB τ))), (1, .int (nI (pA τ))), (0, .ref g)]) hc dX6_join_60 rfl (by decide) rfl ?_
          refine r_iload_n hc dX6_join_61 rfl 2 rfl ?_
          refine r_iload_n hc dX6_join_62 rfl 1 rfl ?_
          refine n_icmp_ge hc 70 dX6_join_63 (by decide) (by omega) (by omega) (fun h26 => ?_) (fun h26 => ?_)
          · exact absurd h26 (by omega)
          · refine r_iload_n hc dX6_join_66 rfl 1 rfl ?_
            refine r_goto hc 71 dX6_join_67 (by decide) ?_
            refine r_istore (lv' := [(4, .int (nI (pB τ))), (3, .int (nI (pA τ))), (2, .int (nI (pB τ))), (1, .int (nI (pA τ))), (0, .ref g)]) hc dX6_join_71 (by decide) rfl ?_
            refine r_aload_n hc dX6_join_73 rfl 4 rfl ?_
            refine r_get hc inlX6 0 rfl rfl 6 (by decide) fl_X6_16 rfl rfl dX6_join_74 ?_
            refine r_iload hc dX6_join_77 0 rfl ?_
            refine r_iload_n hc dX6_join_79 rfl 1 rfl ?_
            refine r_iast (ws' := wY cI cZ g gL gS gW gT gO gP gU gA gE gQ (rN τ) (rLe τ) (rSz τ) (rRe τ) (rSu τ) (rMd τ) (va_up (rNw τ) (pB τ) (pA τ)) (rTb τ) (rCh τ) (rPr τ - 1) (rOn τ) (rTw τ) (rNu τ) (rNa τ) (rNd τ) (rSe τ) (rLo τ)) hc nI (pA τ) 3 rfl (by omega) (by decide) rfl dX6_join_80 ?_
            refine r_aload_n hc dX6_join_81 rfl 4 rfl ?_
            refine r_iconst (v := (nI 1)) hc dX6_join_82 rfl ?_
            refine r_put (ws' := wY cI cZ g gL gS gW gT gO gP gU gA gE gQ (rN τ) (rLe τ) (rSz τ) (rRe τ) (rSu τ) (rMd τ) (va_up (rNw τ) (pB τ) (pA τ)) (rTb τ) true (rPr τ - 1) (rOn τ) (rTw τ) (rNu τ) (rNa τ) (rNd τ) (rSe τ) (rLo τ)) hc inlX6 tyX6 tyX6_ok nmX6 0 rfl rfl 8 (by decide) fl_X6_78 rfl rfl rfl rfl (Nat.le_of_ble_eq_true rfl) rfl dX6_join_83 ?_
            refine r_iconst (v := (nI 0)) hc dX6_join_86 rfl ?_
            refine r_istore (lv' := [(5, .int (nI 0)), (4, .int (nI (pB τ))), (3, .int (nI (pA τ))), (2, .int (nI (pB τ))), (1, .int (nI (pA τ))), (0, .ref g)]) hc dX6_join_87 (by decide) rfl ?_
            show V p l e (RM 2 50 0 0) s m args below meth c D A 7 0 0 Q (wR cI cZ g gL gS gW gT gO gP gU gA gE gQ (gMrg (gDec τ) (pA τ) (pB τ))) 89 [(5, .int (nI 0)), (4, .int (nI (pB τ))), (3, .int (nI (pA τ))), (2, .int (nI (pB τ))), (1, .int (nI (pA τ))), (0, .ref g)] []
            have lp89 : ∀ (n : Nat) (x : Nat), 6 - x = n → (x ≤ 6) → V p l e (RM 2 50 0 0) s m args below meth c D A 7 0 0 Q (wR cI cZ g gL gS gW gT gO gP gU gA gE gQ (gJi (gMrg (gDec τ) (pA τ) (pB τ)) (pA τ) (pB τ) x)) 89 [(5, .int (nI x)), (4, .int (nI (pB τ))), (3, .int (nI (pA τ))), (2, .int (nI (pB τ))), (1, .int (nI (pA τ))), (0, .ref g)] [] := by
              intro n
              induction n using Nat.strongRecOn with
              | _ n ih89 =>
              intro x hm89 hx
              obtain ⟨β, hβ⟩ : ∃ q, q = gJi (gMrg (gDec τ) (pA τ) (pB τ)) (pA τ) (pB τ) x := ⟨_, rfl⟩
              rw [← hβ]
              refine r_iload hc dX6_join_89 0 rfl ?_
              refine r_bipush (v := (nI 6)) hc dX6_join_91 rfl ?_
              refine n_icmp_ge hc 145 dX6_join_93 (by decide) (by omega) (by omega) (fun h27 => ?_) (fun h27 => ?_)
              · obtain rfl : x = 6 := by omega
                subst hβ
                show V p l e (RM 2 50 0 0) s m args below meth c D A 7 0 0 Q (wR cI cZ g gL gS gW gT gO gP gU gA gE gQ (gJi (gMrg (gDec τ) (pA τ) (pB τ)) (pA τ) (pB τ) 6)) 145 [(5, .int (nI 6)), (4, .int (nI (pB τ))), (3, .int (nI (pA τ))), (2, .int (nI (pB τ))), (1, .int (nI (pA τ))), (0, .ref g)] []
                refine r_goto hc 0 dX6_join_145 (by decide) ?_
                refine r_lv [5] rfl ?_
                have hPop : (gJi (gMrg (gDec τ) (pA τ) (pB τ)) (pA τ) (pB τ) 6) = gPop τ := ((if_neg h19).trans (if_pos h20)).symm
                refine r_weq (ws' := wR cI cZ g gL gS gW gT gO gP gU gA gE gQ (gPop τ)) (congrArg (wR cI cZ g gL gS gW gT gO gP gU gA gE gQ) hPop) ?_
                refine r_lv [0] rfl ?_
                exact ih0 _ (by rw [← hm0]; exact (hIs τ hIt h1).2) (gPop τ) rfl (hIs τ hIt h1).1
              · have hL := hIj τ hIt h1 (pA τ) (pB τ) x h27 h20 (Or.inl ⟨rfl, rfl⟩)
                rw [← hβ] at hL
                obtain ⟨hBb, hnb, hpb⟩ := hL
                have bbT := hBb.2.2.2.2.2.2.2.1
                refine r_aload_n hc dX6_join_96 rfl 5 rfl ?_
                refine r_get hc inlX6 0 rfl rfl 7 (by decide) fl_X6_19 rfl rfl dX6_join_97 ?_
                refine r_bipush (v := (nI 6)) hc dX6_join_100 rfl ?_
                refine r_iload hc dX6_join_102 1 rfl ?_
                refine n_mul hc dX6_join_104 ?_
                refine r_iload hc dX6_join_105 0 rfl ?_
                refine n_add hc dX6_join_107 ?_
                refine r_iald hc eI 4 rfl (by omega) (by decide) dX6_join_108 ?_
                refine r_istore (lv' := [(6, .int (eI ((rTb β) ((6 * (pB τ)) + x)))), (5, .int (nI x)), (4, .int (nI (pB τ))), (3, .int (nI (pA τ))), (2, .int (nI (pB τ))), (1, .int (nI (pA τ))), (0, .ref g)]) hc dX6_join_109 (by decide) rfl ?_
                refine r_iload hc dX6_join_111 0 rfl ?_
                refine e_if_lt hc 139 dX6_join_113 (by decide) (fun d h => Nat.lt_trans (bbT _ d h) (by decide)) (fun h28 => ?_) (fun d29 h28 => ?_)
                · refine r_lv [6, 5, 4, 3, 2, 1] rfl ?_
                  have hnx : β = (gJi (gMrg (gDec τ) (pA τ) (pB τ)) (pA τ) (pB τ) (x + 1)) := by rw [gJi, ← hβ]; unfold gJs; rw [h28]
                  refine r_weq (ws' := wR cI cZ g gL gS gW gT gO gP gU gA gE gQ (gJi (gMrg (gDec τ) (pA τ) (pB τ)) (pA τ) (pB τ) (x + 1))) (congrArg (wR cI cZ g gL gS gW gT gO gP gU gA gE gQ) hnx) ?_
                  refine r_iinc (k := 5) (v := (nI (x + 1))) (lv' := [(5, .int (nI (x + 1))), (0, .ref g), (1, .int (nI (pA τ))), (2, .int (nI (pB τ))), (3, .int (nI (pA τ))), (4, .int (nI (pB τ)))]) hc dX6_join_139 rfl (nI_add _ _) (by decide) rfl ?_
                  refine r_goto hc 89 dX6_join_142 (by decide) ?_
                  refine r_lv [0, 5, 4, 3, 2, 1] rfl ?_
                  exact ih89 _ (by omega) (x + 1) rfl (by omega)
                · rw [h28]
                  show V _ _ _ _ _ _ _ _ _ _ _ _ _ _ _ _ _ _ [(6, .int (nI d29)), (5, .int (nI x)), (4, .int (nI (pB τ))), (3, .int (nI (pA τ))), (2, .int (nI (pB τ))), (1, .int (nI (pA τ))), (0, .ref g)] []
                  refine r_aload_n hc dX6_join_116 rfl 6 rfl ?_
                  refine r_get hc inlX6 0 rfl rfl 7 (by decide) fl_X6_19 rfl rfl dX6_join_117 ?_
                  refine r_bipush (v := (nI 6)) hc dX6_join_120 rfl ?_
                  refine r_iload hc dX6_join_122 2 rfl ?_
                  refine n_mul hc dX6_join_124 ?_
                  refine r_iload hc dX6_join_125 1 rfl ?_
                  refine n_add hc dX6_join_127 ?_
                  refine r_iconst (v := (-1)) hc dX6_join_128 rfl ?_
                  refine r_iast (ws' := wY cI cZ g gL gS gW gT gO gP gU gA gE gQ (rN β) (rLe β) (rSz β) (rRe β) (rSu β) (rMd β) (rNw β) (va_up (rTb β) ((6 * (pB τ)) + x) none) (rCh β) (rPr β) (rOn β) (rTw β) (rNu β) (rNa β) (rNd β) (rSe β) (rLo β)) hc eI none 4 rfl (by omega) (by decide) rfl dX6_join_129 ?_
                  refine r_aload_n hc dX6_join_130 rfl 6 rfl ?_
                  refine r_iload_n hc dX6_join_131 rfl 3 rfl ?_
                  refine r_iload hc dX6_join_132 1 rfl ?_
                  refine r_iload hc dX6_join_134 0 rfl ?_
                  show V p l e (RM 2 50 0 0) s m args below meth c D A 7 0 0 Q (wR cI cZ g gL gS gW gT gO gP gU gA gE gQ (gClrT β (6 * (pB τ) + x))) 136 [(6, .int (nI d29)), (5, .int (nI x)), (4, .int (nI (pB τ))), (3, .int (nI (pA τ))), (2, .int (nI (pB τ))), (1, .int (nI (pA τ))), (0, .ref g)] [.int (nI d29), .int (nI x), .int (nI (pA τ)), .ref g]
                  refine r_callV (As := [.int (nI (pA τ)), .int (nI x), .int (nI d29)]) (n := 3) (wr := []) hc (m_learn l D cI cZ cW g gL gS gW gT gO gP gU gA gE gQ (gClrT β (6 * (pB τ) + x)) (pA τ) x d29 (by omega) (by omega) (bbT _ _ h28) hnb hpb hBb.clr) co_yX6_learn in_X6 ml_X6_86 (by decide +kernel) rfl ⟨by decide, by decide⟩ ⟨by decide, by decide⟩ im_yX6_learn se_yX6_learn rfl (Or.inl ⟨0, _, rfl⟩) rfl (Nat.le_of_ble_eq_true rfl) [0, 1, 2, 3, 4, 5, 6, 7, 8, 9, 10] [] rfl rfl rfl rfl (by decide) (fun q hq => absurd hq List.not_mem_nil) dX6_join_136 (fun u1 e30 => ?_)
                  show V p l e (RM 2 50 0 0) s m args below meth c D A 7 0 0 Q (wR cI cZ g gL gS gW gT gO gP gU gA gE gQ u1) 139 [(6, .int (nI d29)), (5, .int (nI x)), (4, .int (nI (pB τ))), (3, .int (nI (pA τ))), (2, .int (nI (pB τ))), (1, .int (nI (pA τ))), (0, .ref g)] []
                  refine r_lv [6, 5, 4, 3, 2, 1] rfl ?_
                  have hnx : u1 = (gJi (gMrg (gDec τ) (pA τ) (pB τ)) (pA τ) (pB τ) (x + 1)) := by rw [gJi, ← hβ, e30]; unfold gJs; rw [h28]
                  refine r_weq (ws' := wR cI cZ g gL gS gW gT gO gP gU gA gE gQ (gJi (gMrg (gDec τ) (pA τ) (pB τ)) (pA τ) (pB τ) (x + 1))) (congrArg (wR cI cZ g gL gS gW gT gO gP gU gA gE gQ) hnx) ?_
                  refine r_iinc (k := 5) (v := (nI (x + 1))) (lv' := [(5, .int (nI (x + 1))), (0, .ref g), (1, .int (nI (pA τ))), (2, .int (nI (pB τ))), (3, .int (nI (pA τ))), (4, .int (nI (pB τ)))]) hc dX6_join_139 rfl (nI_add _ _) (by decide) rfl ?_
                  refine r_goto hc 89 dX6_join_142 (by decide) ?_
                  refine r_lv [0, 5, 4, 3, 2, 1] rfl ?_
                  exact ih89 _ (by omega) (x + 1) rfl (by omega)
            refine r_lv [0, 1, 2, 3, 4, 5] rfl ?_
            exact lp89 _ 0 rfl (by decide)
  refine r_lv [0] rfl ?_
  exact lp0 _ ρ rfl hI
