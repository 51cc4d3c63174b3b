section LAW7
variable {p : Program} {l : Launch} {e : Env} {s : State} {m : MethodId} {below : List Frame} {meth : Method} {c : Code} {D : va_G} {A : Nat → Prop} {Q : State → Prop} {cI cZ cW : ClassId} {b L : Nat} {xs : Nat → Int32} {hx : Nat} {a : AT} {g gL gS gW gT gO gP gU gA gE gQ : Nat}
variable {n : Nat} {hcol : Nat → Nat} {hlen : Nat} {rcol : Nat → Nat → Nat} {rlen : Nat → Nat} {nr : Nat} {scol : Nat → Nat → Nat} {slen : Nat → Nat} {ns : Nat} {σ : CS} {α : AS} {ρ : RS}
set_option maxHeartbeats 4000000 in
set_option maxRecDepth 100000 in
/-- the law: known -/
theorem law_known (hc : CX p s m #[Value.ref b] c cL_law 4 RL D cI cZ cW A) (hX : va_X b L xs s s.heap) (hbl : b < s.heap.size) (hbA : ¬ A b) {i : Nat} (hi : i + 3 ≤ L) (hL : L ≤ 1536) (h : LI n hcol hlen rcol rlen nr scol slen ns σ α ρ) (kk : ∀ n hcol hlen rcol rlen nr scol slen ns σ α ρ, LI n hcol hlen rcol rlen nr scol slen ns σ α ρ → V p l e room_1 s m #[Value.ref b] below meth c D A 4 60 23880 Q (wLw cI cZ cW hx a g gL gS gW gT gO gP gU gA gE gQ n hcol hlen rcol rlen nr scol slen ns σ α ρ) 440 [(3, .int (nI i)), (2, .ref g), (1, .ref hx), (0, .ref b)] []) : V p l e room_1 s m #[Value.ref b] below meth c D A 4 60 23880 Q (wLw cI cZ cW hx a g gL gS gW gT gO gP gU gA gE gQ n hcol hlen rcol rlen nr scol slen ns σ α ρ) 239 [(3, .int (nI i)), (2, .ref g), (1, .ref hx), (0, .ref b)] [] := by
  obtain ⟨hBD, -, -, hBA, hBR, hnw, -⟩ := h.fr
  obtain ⟨w1, w2, w3, w4, w5, w6, w7, w8, w9, w10, w11, w12, w13⟩ := id h.1
  obtain ⟨v, hv⟩ : ∃ v, xs (nI (i + 1)).toNatClampNeg = v := ⟨_, rfl⟩
  obtain ⟨y, hy⟩ : ∃ y, xs (nI (i + 2)).toNatClampNeg = y := ⟨_, rfl⟩
  refine r_aload_n hc dL_law_239 rfl 2 rfl ?_
  refine r_aload_n hc dL_law_240 rfl 3 rfl ?_
  refine r_iload_n hc dL_law_241 rfl 0 rfl ?_
  refine r_iconst (v := nI 1) hc dL_law_242 rfl ?_
  refine n_add hc dL_law_243 ?_
  refine r_sld hc hX hbl hbA hv (vp_in_nI (by omega) (by omega)) dL_law_244 ?_
  refine r_aload_n hc dL_law_245 rfl 3 rfl ?_
  refine r_iload_n hc dL_law_246 rfl 0 rfl ?_
  refine r_iconst (v := nI 2) hc dL_law_247 rfl ?_
  refine n_add hc dL_law_248 ?_
  refine r_sld hc hX hbl hbA hy (vp_in_nI (by omega) (by omega)) dL_law_249 ?_
  by_cases hv0 : isLt n y = false ∨ livI σ v = false
  · refine r_callI (As := [.int v, .int y]) (n := 2) (wr := wLw cI cZ cW hx a g gL gS gW gT gO gP gU gA gE gQ n hcol hlen rcol rlen nr scol slen ns σ α ρ) hc (c_known_bad l D cI cZ cW hx (zhh a) (zhr1 a) (zhs1 a) (zh a) (zhi a) (zha a) n (zah a) hcol hlen (zar a) (zrwa a) (zrca a) rcol rlen nr (zas a) (zswa a) (zsca a) scol slen ns (zaE a) (zaL a) (zaF a) (zaR a) (zaS a) σ (zaU a) (zaN a) (zaT a) (zaG a) α v y hv0 hBD) co_yX5_known in_X5 ml_L_43 (by decide +kernel) rfl ⟨Nat.le_of_ble_eq_true rfl, Nat.le_of_ble_eq_true rfl⟩ ⟨Nat.le_of_ble_eq_true rfl, Nat.le_of_ble_eq_true rfl⟩ im_yX5_known se_yX5_known rfl (Or.inl ⟨0, _, rfl⟩) rfl (Nat.le_of_ble_eq_true rfl) [] [0, 1, 2, 3, 4, 5, 6, 7, 8, 9, 10, 11, 12, 13, 14, 15, 16, 17, 18, 19, 20, 21, 22, 23, 24, 25, 26, 27, 28, 29, 30, 31, 32, 33, 34, 35, 36, 37, 38, 39, 40, 41, 42, 43, 44, 45, 46, 47, 48, 49, 50, 51, 52, 53, 54, 55, 56, 57, 58, 59] rfl rfl rfl rfl (by decide) (fun q hq => Or.inl (ro_of_wr (ws := wLw cI cZ cW hx a g gL gS gW gT gO gP gU gA gE gQ n hcol hlen rcol rlen nr scol slen ns σ α ρ) (wr := wT0 hx (zhh a) (zhr1 a) (zhs1 a) (zh a) (zhi a) (zha a) n ++ (wW cI (zhh a) (zah a) hcol hlen ++ (wL cI cW (zhr1 a) (zar a) 10 (zrwa a) (zrca a) rcol rlen nr ++ (wL cI cW (zhs1 a) (zas a) 5 (zswa a) (zsca a) scol slen ns ++ (wS cI cZ (zh a) (zaE a) (zaL a) (zaF a) (zaR a) (zaS a) σ ++ (wA cI cZ (zha a) (zh a) (zhs1 a) (zaU a) (zaN a) (zaT a) (zaG a) α)))))) [0, 1, 2, 3, 4, 5, 6, 7, 8, 9, 10, 11, 12, 13, 14, 15, 16, 17, 18, 19, 20, 21, 22, 23, 24, 25, 26, 27, 28, 29, 30, 31, 32, 33, 34, 35, 36, 37, 38, 39, 40, 41, 42, 44, 45, 46, 47, 48] rfl (by decide) hq)) dL_law_250 (fun r u hp => ?_)
    have hp : r = -1 := hp
    subst hp
    refine r_perm (ws' := wLw cI cZ cW hx a g gL gS gW gT gO gP gU gA gE gQ n hcol hlen rcol rlen nr scol slen ns σ α ρ) [0, 1, 2, 3, 4, 5, 6, 7, 8, 9, 10, 11, 12, 13, 14, 15, 16, 17, 18, 19, 20, 21, 22, 23, 24, 25, 26, 27, 28, 29, 30, 31, 32, 33, 34, 35, 36, 37, 38, 39, 40, 41, 42, 43, 44, 45, 46, 47, 48, 49, 50, 51, 52, 53, 54, 55, 56, 57, 58, 59] rfl rfl ?_
    show V p l e room_1 s m #[Value.ref b] below meth c D A 4 60 23880 Q (wLw cI cZ cW hx a g gL gS gW gT gO gP gU gA gE gQ n hcol hlen rcol rlen nr scol slen ns σ α ρ) 253 [(3, .int (nI i)), (2, .ref g), (1, .ref hx), (0, .ref b)] [.int (-1)]
    refine r_aload_n hc dL_law_253 rfl 1 rfl ?_
    refine r_aload_n hc dL_law_254 rfl 3 rfl ?_
    refine r_iload_n hc dL_law_255 rfl 0 rfl ?_
    refine r_iconst (v := nI 1) hc dL_law_256 rfl ?_
    refine n_add hc dL_law_257 ?_
    refine r_sld hc hX hbl hbA hv (vp_in_nI (by omega) (by omega)) dL_law_258 ?_
    refine r_aload_n hc dL_law_259 rfl 3 rfl ?_
    refine r_iload_n hc dL_law_260 rfl 0 rfl ?_
    refine r_iconst (v := nI 2) hc dL_law_261 rfl ?_
    refine n_add hc dL_law_262 ?_
    refine r_sld hc hX hbl hbA hy (vp_in_nI (by omega) (by omega)) dL_law_263 ?_
    refine r_callI (As := [.int v, .int y]) (n := 2) (wr := wLw cI cZ cW hx a g gL gS gW gT gO gP gU gA gE gQ n hcol hlen rcol rlen nr scol slen ns σ α ρ) hc (m_known_bad l D cI cZ cW g gL gS gW gT gO gP gU gA gE gQ ρ v y (by rw [w3, ← q_liv h]; exact hv0) hBR) co_yX6_known in_X6 ml_L_47 (by decide +kernel) rfl ⟨Nat.le_of_ble_eq_true rfl, Nat.le_of_ble_eq_true rfl⟩ ⟨Nat.le_of_ble_eq_true rfl, Nat.le_of_ble_eq_true rfl⟩ im_yX6_known se_yX6_known rfl (Or.inl ⟨49, _, rfl⟩) rfl (Nat.le_of_ble_eq_true rfl) [] [0, 1, 2, 3, 4, 5, 6, 7, 8, 9, 10, 11, 12, 13, 14, 15, 16, 17, 18, 19, 20, 21, 22, 23, 24, 25, 26, 27, 28, 29, 30, 31, 32, 33, 34, 35, 36, 37, 38, 39, 40, 41, 42, 43, 44, 45, 46, 47, 48, 49, 50, 51, 52, 53, 54, 55, 56, 57, 58, 59] rfl rfl rfl rfl (by decide) (fun q hq => Or.inl (ro_of_wr (ws := wLw cI cZ cW hx a g gL gS gW gT gO gP gU gA gE gQ n hcol hlen rcol rlen nr scol slen ns σ α ρ) (wr := wR cI cZ g gL gS gW gT gO gP gU gA gE gQ ρ) [49, 50, 51, 52, 53, 54, 55, 56, 57, 58, 59] rfl (by decide) hq)) dL_law_264 (fun r u hp => ?_)
    have hp : r = -1 := hp
    subst hp
    refine r_perm (ws' := wLw cI cZ cW hx a g gL gS gW gT gO gP gU gA gE gQ n hcol hlen rcol rlen nr scol slen ns σ α ρ) [0, 1, 2, 3, 4, 5, 6, 7, 8, 9, 10, 11, 12, 13, 14, 15, 16, 17, 18, 19, 20, 21, 22, 23, 24, 25, 26, 27, 28, 29, 30, 31, 32, 33, 34, 35, 36, 37, 38, 39, 40, 41, 42, 43, 44, 45, 46, 47, 48, 49, 50, 51, 52, 53, 54, 55, 56, 57, 58, 59] rfl rfl ?_
    show V p l e room_1 s m #[Value.ref b] below meth c D A 4 60 23880 Q (wLw cI cZ cW hx a g gL gS gW gT gO gP gU gA gE gQ n hcol hlen rcol rlen nr scol slen ns σ α ρ) 267 [(3, .int (nI i)), (2, .ref g), (1, .ref hx), (0, .ref b)] [.int (-1), .int (-1)]
    refine r_icmp_eq hc 440 dL_law_267 (by decide) (fun _ => ?_) (fun w => absurd (rfl) w)
    exact kk _ _ _ _ _ _ _ _ _ _ _ _ (h)
  · have hy0 : isLt n y = true := by cases z : isLt n y with | true => rfl | false => exact absurd (Or.inl z) hv0
    have hl0 : livI σ v = true := by cases z : livI σ v with | true => rfl | false => exact absurd (Or.inr z) hv0
    obtain ⟨k, hk31, rfl⟩ := liv_nat hl0
    have hl1 : livRI ρ (nI k) = true := by rw [← q_liv h]; exact hl0
    rw [livI_n _ hk31] at hl0
    rw [livRI_n _ hk31] at hl1
    have hkM : k < sM σ := by unfold liv at hl0; simp at hl0; exact hl0.1
    have hc6 : colI y < 6 := by have := (isLt_six w2 hy0).2; omega
    refine r_callI (As := [.int (nI k), .int y]) (n := 2) (wr := wLw cI cZ cW hx a g gL gS gW gT gO gP gU gA gE gQ n hcol hlen rcol rlen nr scol slen ns σ α ρ) hc (c_known l D cI cZ cW hx (zhh a) (zhr1 a) (zhs1 a) (zh a) (zhi a) (zha a) n (zah a) hcol hlen (zar a) (zrwa a) (zrca a) rcol rlen nr (zas a) (zswa a) (zsca a) scol slen ns (zaE a) (zaL a) (zaF a) (zaR a) (zaS a) σ (zaU a) (zaN a) (zaT a) (zaG a) α k y w2 hl0 hy0 hBD) co_yX5_known in_X5 ml_L_43 (by decide +kernel) rfl ⟨Nat.le_of_ble_eq_true rfl, Nat.le_of_ble_eq_true rfl⟩ ⟨Nat.le_of_ble_eq_true rfl, Nat.le_of_ble_eq_true rfl⟩ im_yX5_known se_yX5_known rfl (Or.inl ⟨0, _, rfl⟩) rfl (Nat.le_of_ble_eq_true rfl) [] [0, 1, 2, 3, 4, 5, 6, 7, 8, 9, 10, 11, 12, 13, 14, 15, 16, 17, 18, 19, 20, 21, 22, 23, 24, 25, 26, 27, 28, 29, 30, 31, 32, 33, 34, 35, 36, 37, 38, 39, 40, 41, 42, 43, 44, 45, 46, 47, 48, 49, 50, 51, 52, 53, 54, 55, 56, 57, 58, 59] rfl rfl rfl rfl (by decide) (fun q hq => Or.inl (ro_of_wr (ws := wLw cI cZ cW hx a g gL gS gW gT gO gP gU gA gE gQ n hcol hlen rcol rlen nr scol slen ns σ α ρ) (wr := wT0 hx (zhh a) (zhr1 a) (zhs1 a) (zh a) (zhi a) (zha a) n ++ (wW cI (zhh a) (zah a) hcol hlen ++ (wL cI cW (zhr1 a) (zar a) 10 (zrwa a) (zrca a) rcol rlen nr ++ (wL cI cW (zhs1 a) (zas a) 5 (zswa a) (zsca a) scol slen ns ++ (wS cI cZ (zh a) (zaE a) (zaL a) (zaF a) (zaR a) (zaS a) σ ++ (wA cI cZ (zha a) (zh a) (zhs1 a) (zaU a) (zaN a) (zaT a) (zaG a) α)))))) [0, 1, 2, 3, 4, 5, 6, 7, 8, 9, 10, 11, 12, 13, 14, 15, 16, 17, 18, 19, 20, 21, 22, 23, 24, 25, 26, 27, 28, 29, 30, 31, 32, 33, 34, 35, 36, 37, 38, 39, 40, 41, 42, 44, 45, 46, 47, 48] rfl (by decide) hq)) dL_law_250 (fun r u hp => ?_)
    have hp : r = knI (sE σ (k * 6 + colI y)) := hp
    subst hp
    refine r_perm (ws' := wLw cI cZ cW hx a g gL gS gW gT gO gP gU gA gE gQ n hcol hlen rcol rlen nr scol slen ns σ α ρ) [0, 1, 2, 3, 4, 5, 6, 7, 8, 9, 10, 11, 12, 13, 14, 15, 16, 17, 18, 19, 20, 21, 22, 23, 24, 25, 26, 27, 28, 29, 30, 31, 32, 33, 34, 35, 36, 37, 38, 39, 40, 41, 42, 43, 44, 45, 46, 47, 48, 49, 50, 51, 52, 53, 54, 55, 56, 57, 58, 59] rfl rfl ?_
    show V p l e room_1 s m #[Value.ref b] below meth c D A 4 60 23880 Q (wLw cI cZ cW hx a g gL gS gW gT gO gP gU gA gE gQ n hcol hlen rcol rlen nr scol slen ns σ α ρ) 253 [(3, .int (nI i)), (2, .ref g), (1, .ref hx), (0, .ref b)] [.int (knI (sE σ (k * 6 + colI y)))]
    refine r_aload_n hc dL_law_253 rfl 1 rfl ?_
    refine r_aload_n hc dL_law_254 rfl 3 rfl ?_
    refine r_iload_n hc dL_law_255 rfl 0 rfl ?_
    refine r_iconst (v := nI 1) hc dL_law_256 rfl ?_
    refine n_add hc dL_law_257 ?_
    refine r_sld hc hX hbl hbA hv (vp_in_nI (by omega) (by omega)) dL_law_258 ?_
    refine r_aload_n hc dL_law_259 rfl 3 rfl ?_
    refine r_iload_n hc dL_law_260 rfl 0 rfl ?_
    refine r_iconst (v := nI 2) hc dL_law_261 rfl ?_
    refine n_add hc dL_law_262 ?_
    refine r_sld hc hX hbl hbA hy (vp_in_nI (by omega) (by omega)) dL_law_263 ?_
    refine r_callI (As := [.int (nI k), .int y]) (n := 2) (wr := wLw cI cZ cW hx a g gL gS gW gT gO gP gU gA gE gQ n hcol hlen rcol rlen nr scol slen ns σ α ρ) hc (m_known l D cI cZ cW g gL gS gW gT gO gP gU gA gE gQ ρ k y hl1 (by rw [w3]; exact hy0) hBR) co_yX6_known in_X6 ml_L_47 (by decide +kernel) rfl ⟨Nat.le_of_ble_eq_true rfl, Nat.le_of_ble_eq_true rfl⟩ ⟨Nat.le_of_ble_eq_true rfl, Nat.le_of_ble_eq_true rfl⟩ im_yX6_known se_yX6_known rfl (Or.inl ⟨49, _, rfl⟩) rfl (Nat.le_of_ble_eq_true rfl) [] [0, 1, 2, 3, 4, 5, 6, 7, 8, 9, 10, 11, 12, 13, 14, 15, 16, 17, 18, 19, 20, 21, 22, 23, 24, 25, 26, 27, 28, 29, 30, 31, 32, 33, 34, 35, 36, 37, 38, 39, 40, 41, 42, 43, 44, 45, 46, 47, 48, 49, 50, 51, 52, 53, 54, 55, 56, 57, 58, 59] rfl rfl rfl rfl (by decide) (fun q hq => Or.inl (ro_of_wr (ws := wLw cI cZ cW hx a g gL gS gW gT gO gP gU gA gE gQ n hcol hlen rcol rlen nr scol slen ns σ α ρ) (wr := wR cI cZ g gL gS gW gT gO gP gU gA gE gQ ρ) [49, 50, 51, 52, 53, 54, 55, 56, 57, 58, 59] rfl (by decide) hq)) dL_law_264 (fun r u hp => ?_)
    have hp : r = knI (rTb ρ (k * 6 + colI y)) := hp
    subst hp
    refine r_perm (ws' := wLw cI cZ cW hx a g gL gS gW gT gO gP gU gA gE gQ n hcol hlen rcol rlen nr scol slen ns σ α ρ) [0, 1, 2, 3, 4, 5, 6, 7, 8, 9, 10, 11, 12, 13, 14, 15, 16, 17, 18, 19, 20, 21, 22, 23, 24, 25, 26, 27, 28, 29, 30, 31, 32, 33, 34, 35, 36, 37, 38, 39, 40, 41, 42, 43, 44, 45, 46, 47, 48, 49, 50, 51, 52, 53, 54, 55, 56, 57, 58, 59] rfl rfl ?_
    show V p l e room_1 s m #[Value.ref b] below meth c D A 4 60 23880 Q (wLw cI cZ cW hx a g gL gS gW gT gO gP gU gA gE gQ n hcol hlen rcol rlen nr scol slen ns σ α ρ) 267 [(3, .int (nI i)), (2, .ref g), (1, .ref hx), (0, .ref b)] [.int (knI (rTb ρ (k * 6 + colI y))), .int (knI (sE σ (k * 6 + colI y)))]
    refine r_icmp_eq hc 440 dL_law_267 (by decide) (fun _ => ?_) (fun w => absurd (by rw [q_ent h hkM hc6]) w)
    exact kk _ _ _ _ _ _ _ _ _ _ _ _ (h)
end LAW7
