section LAW9
variable {p : Program} {l : Launch} {e : Env} {s : State} {m : MethodId} {below : List Frame} {meth : Method} {c : Code} {D : va_G} {A : Nat → Prop} {Q : State → Prop} {cI cZ cW : ClassId} {b L : Nat} {xs : Nat → Int32} {hx : Nat} {a : AT} {g gL gS gW gT gO gP gU gA gE gQ : Nat}
variable {n : Nat} {hcol : Nat → Nat} {hlen : Nat} {rcol : Nat → Nat → Nat} {rlen : Nat → Nat} {nr : Nat} {scol : Nat → Nat → Nat} {slen : Nat → Nat} {ns : Nat} {σ : CS} {α : AS} {ρ : RS}
set_option maxHeartbeats 4000000 in
set_option maxRecDepth 100000 in
/-- the law: entry -/
theorem law_entry (hc : CX p s m #[Value.ref b] c cL_law 4 RL D cI cZ cW A) (hX : va_X b L xs s s.heap) (hbl : b < s.heap.size) (hbA : ¬ A b) {i : Nat} (hi : i + 3 ≤ L) (hL : L ≤ 1536) (h : LI n hcol hlen rcol rlen nr scol slen ns σ α ρ) (kk : ∀ n hcol hlen rcol rlen nr scol slen ns σ α ρ, LI n hcol hlen rcol rlen nr scol slen ns σ α ρ → V p l e room_1 s m #[Value.ref b] below meth c D A 4 60 23880 Q (wLw cI cZ cW hx a g gL gS gW gT gO gP gU gA gE gQ n hcol hlen rcol rlen nr scol slen ns σ α ρ) 440 [(3, .int (nI i)), (2, .ref g), (1, .ref hx), (0, .ref b)] []) : V p l e room_1 s m #[Value.ref b] below meth c D A 4 60 23880 Q (wLw cI cZ cW hx a g gL gS gW gT gO gP gU gA gE gQ n hcol hlen rcol rlen nr scol slen ns σ α ρ) 295 [(3, .int (nI i)), (2, .ref g), (1, .ref hx), (0, .ref b)] [] := by
  obtain ⟨hBD, -, -, hBA, hBR, hnw, -⟩ := h.fr
  obtain ⟨w1, w2, w3, w4, w5, w6, w7, w8, w9, w10, w11, w12, w13⟩ := id h.1
  obtain ⟨v, hv⟩ : ∃ v, xs (nI (i + 1)).toNatClampNeg = v := ⟨_, rfl⟩
  obtain ⟨y, hy⟩ : ∃ y, xs (nI (i + 2)).toNatClampNeg = y := ⟨_, rfl⟩
  refine r_aload_n hc dL_law_295 rfl 2 rfl ?_
  refine r_aload_n hc dL_law_296 rfl 3 rfl ?_
  refine r_iload_n hc dL_law_297 rfl 0 rfl ?_
  refine r_iconst (v := nI 1) hc dL_law_298 rfl ?_
  refine n_add hc dL_law_299 ?_
  refine r_sld hc hX hbl hbA hv (vp_in_nI (by omega) (by omega)) dL_law_300 ?_
  refine r_aload_n hc dL_law_301 rfl 3 rfl ?_
  refine r_iload_n hc dL_law_302 rfl 0 rfl ?_
  refine r_iconst (v := nI 2) hc dL_law_303 rfl ?_
  refine n_add hc dL_law_304 ?_
  refine r_sld hc hX hbl hbA hy (vp_in_nI (by omega) (by omega)) dL_law_305 ?_
  by_cases hcm : cmpl ρ
  · by_cases hl0 : inN (tZ α) v = false ∨ isLt n y = false
    · refine r_callI (As := [.int v, .int y]) (n := 2) (wr := wLw cI cZ cW hx a g gL gS gW gT gO gP gU gA gE gQ n hcol hlen rcol rlen nr scol slen ns σ α ρ) hc (c_entry_bad l D cI cZ cW hx (zhh a) (zhr1 a) (zhs1 a) (zh a) (zhi a) (zha a) n (zah a) hcol hlen (zar a) (zrwa a) (zrca a) rcol rlen nr (zas a) (zswa a) (zsca a) scol slen ns (zaE a) (zaL a) (zaF a) (zaR a) (zaS a) σ (zaU a) (zaN a) (zaT a) (zaG a) α v y hl0 hBA) co_yX5_entry in_X5 ml_L_52 (by decide +kernel) rfl ⟨Nat.le_of_ble_eq_true rfl, Nat.le_of_ble_eq_true rfl⟩ ⟨Nat.le_of_ble_eq_true rfl, Nat.le_of_ble_eq_true rfl⟩ im_yX5_entry se_yX5_entry rfl (Or.inl ⟨0, _, rfl⟩) rfl (Nat.le_of_ble_eq_true rfl) [] [0, 1, 2, 3, 4, 5, 6, 7, 8, 9, 10, 11, 12, 13, 14, 15, 16, 17, 18, 19, 20, 21, 22, 23, 24, 25, 26, 27, 28, 29, 30, 31, 32, 33, 34, 35, 36, 37, 38, 39, 40, 41, 42, 43, 44, 45, 46, 47, 48, 49, 50, 51, 52, 53, 54, 55, 56, 57, 58, 59] rfl rfl rfl rfl (by decide) (fun q hq => Or.inl (ro_of_wr (ws := wLw cI cZ cW hx a g gL gS gW gT gO gP gU gA gE gQ n hcol hlen rcol rlen nr scol slen ns σ α ρ) (wr := wT0 hx (zhh a) (zhr1 a) (zhs1 a) (zh a) (zhi a) (zha a) n ++ (wW cI (zhh a) (zah a) hcol hlen ++ (wL cI cW (zhr1 a) (zar a) 10 (zrwa a) (zrca a) rcol rlen nr ++ (wL cI cW (zhs1 a) (zas a) 5 (zswa a) (zsca a) scol slen ns ++ (wS cI cZ (zh a) (zaE a) (zaL a) (zaF a) (zaR a) (zaS a) σ ++ (wA cI cZ (zha a) (zh a) (zhs1 a) (zaU a) (zaN a) (zaT a) (zaG a) α)))))) [0, 1, 2, 3, 4, 5, 6, 7, 8, 9, 10, 11, 12, 13, 14, 15, 16, 17, 18, 19, 20, 21, 22, 23, 24, 25, 26, 27, 28, 29, 30, 31, 32, 33, 34, 35, 36, 37, 38, 39, 40, 41, 42, 44, 45, 46, 47, 48] rfl (by decide) hq)) dL_law_306 (fun r u hp => ?_)
      have hp : r = -1 := hp
      subst hp
      refine r_perm (ws' := wLw cI cZ cW hx a g gL gS gW gT gO gP gU gA gE gQ n hcol hlen rcol rlen nr scol slen ns σ α ρ) [0, 1, 2, 3, 4, 5, 6, 7, 8, 9, 10, 11, 12, 13, 14, 15, 16, 17, 18, 19, 20, 21, 22, 23, 24, 25, 26, 27, 28, 29, 30, 31, 32, 33, 34, 35, 36, 37, 38, 39, 40, 41, 42, 43, 44, 45, 46, 47, 48, 49, 50, 51, 52, 53, 54, 55, 56, 57, 58, 59] rfl rfl ?_
      show V p l e room_1 s m #[Value.ref b] below meth c D A 4 60 23880 Q (wLw cI cZ cW hx a g gL gS gW gT gO gP gU gA gE gQ n hcol hlen rcol rlen nr scol slen ns σ α ρ) 309 [(3, .int (nI i)), (2, .ref g), (1, .ref hx), (0, .ref b)] [.int (-1)]
      refine r_aload_n hc dL_law_309 rfl 1 rfl ?_
      refine r_aload_n hc dL_law_310 rfl 3 rfl ?_
      refine r_iload_n hc dL_law_311 rfl 0 rfl ?_
      refine r_iconst (v := nI 1) hc dL_law_312 rfl ?_
      refine n_add hc dL_law_313 ?_
      refine r_sld hc hX hbl hbA hv (vp_in_nI (by omega) (by omega)) dL_law_314 ?_
      refine r_aload_n hc dL_law_315 rfl 3 rfl ?_
      refine r_iload_n hc dL_law_316 rfl 0 rfl ?_
      refine r_iconst (v := nI 2) hc dL_law_317 rfl ?_
      refine n_add hc dL_law_318 ?_
      refine r_sld hc hX hbl hbA hy (vp_in_nI (by omega) (by omega)) dL_law_319 ?_
      refine r_callI (As := [.int v, .int y]) (n := 2) (wr := wT0 hx (zhh a) (zhr1 a) (zhs1 a) (zh a) (zhi a) (zha a) n ++ (wW cI (zhh a) (zah a) hcol hlen ++ (wL cI cW (zhr1 a) (zar a) 10 (zrwa a) (zrca a) rcol rlen nr ++ (wL cI cW (zhs1 a) (zas a) 5 (zswa a) (zsca a) scol slen ns ++ (wS cI cZ (zh a) (zaE a) (zaL a) (zaF a) (zaR a) (zaS a) σ ++ (wI (zhi a) (zh a) (zhr1 a) (zhs1 a) ++ (wA cI cZ (zha a) (zh a) (zhs1 a) (zaU a) (zaN a) (zaT a) (zaG a) α))))))) hc (m_entry_bad l D cI cZ cW g gL gS gW gT gO gP gU gA gE gQ ρ hcm (lF ρ (sN n σ)) (q_num h hcm) lF_B hBR v y (fun τ hF => by rw [q_in h hcm hF]; obtain ⟨nu, na, nd, e, _, _⟩ := hF; rw [e]; show _ ∨ isLt (rN ρ) y = false; rw [w3]; exact hl0)) co_yX6_entry in_X6 ml_L_55 (by decide +kernel) rfl ⟨Nat.le_of_ble_eq_true rfl, Nat.le_of_ble_eq_true rfl⟩ ⟨Nat.le_of_ble_eq_true rfl, Nat.le_of_ble_eq_true rfl⟩ im_yX6_entry se_yX6_entry rfl (Or.inl ⟨49, _, rfl⟩) rfl (Nat.le_of_ble_eq_true rfl) [49, 50, 51, 52, 53, 54, 55, 56, 57, 58, 59] [0, 1, 2, 3, 4, 5, 6, 7, 8, 9, 10, 11, 12, 13, 14, 15, 16, 17, 18, 19, 20, 21, 22, 23, 24, 25, 26, 27, 28, 29, 30, 31, 32, 33, 34, 35, 36, 37, 38, 39, 40, 41, 42, 43, 44, 45, 46, 47, 48] rfl rfl rfl rfl (by decide) (fun q hq => absurd hq List.not_mem_nil) dL_law_320 (fun r u hp => ?_)
      obtain ⟨rfl, hF⟩ := hp
      refine r_perm (ws' := wLw cI cZ cW hx a g gL gS gW gT gO gP gU gA gE gQ n hcol hlen rcol rlen nr scol slen ns σ α u) [0, 1, 2, 3, 4, 5, 6, 7, 8, 9, 10, 11, 12, 13, 14, 15, 16, 17, 18, 19, 20, 21, 22, 23, 24, 25, 26, 27, 28, 29, 30, 31, 32, 33, 34, 35, 36, 37, 38, 39, 40, 41, 42, 43, 44, 45, 46, 47, 48, 49, 50, 51, 52, 53, 54, 55, 56, 57, 58, 59] rfl rfl ?_
      show V p l e room_1 s m #[Value.ref b] below meth c D A 4 60 23880 Q (wLw cI cZ cW hx a g gL gS gW gT gO gP gU gA gE gQ n hcol hlen rcol rlen nr scol slen ns σ α u) 323 [(3, .int (nI i)), (2, .ref g), (1, .ref hx), (0, .ref b)] [.int (-1), .int (-1)]
      refine r_icmp_eq hc 440 dL_law_323 (by decide) (fun _ => ?_) (fun w => absurd (rfl) w)
      exact kk _ _ _ _ _ _ _ _ _ _ _ _ (LI_lF h hF)
    · have hy0 : isLt n y = true := by cases z : isLt n y with | true => rfl | false => exact absurd (Or.inr z) hl0
      have hv1 : inN (tZ α) v = true := by cases z : inN (tZ α) v with | true => rfl | false => exact absurd (Or.inl z) hl0
      obtain ⟨k, hk, rfl⟩ := in_nat hv1
      have hk2 : k < 200 := by have := hBA.1; omega
      obtain ⟨d1, d2, e1, e2, e3, e4⟩ := q_entry h hcm hk (isLt_six w2 hy0).2
      refine r_callI (As := [.int (nI k), .int y]) (n := 2) (wr := wLw cI cZ cW hx a g gL gS gW gT gO gP gU gA gE gQ n hcol hlen rcol rlen nr scol slen ns σ α ρ) hc (c_entry l D cI cZ cW hx (zhh a) (zhr1 a) (zhs1 a) (zh a) (zhi a) (zha a) n (zah a) hcol hlen (zar a) (zrwa a) (zrca a) rcol rlen nr (zas a) (zswa a) (zsca a) scol slen ns (zaE a) (zaL a) (zaF a) (zaR a) (zaS a) σ (zaU a) (zaN a) (zaT a) (zaG a) α k d1 d2 y w2 hk hy0 e1 e2 e3 hBA) co_yX5_entry in_X5 ml_L_52 (by decide +kernel) rfl ⟨Nat.le_of_ble_eq_true rfl, Nat.le_of_ble_eq_true rfl⟩ ⟨Nat.le_of_ble_eq_true rfl, Nat.le_of_ble_eq_true rfl⟩ im_yX5_entry se_yX5_entry rfl (Or.inl ⟨0, _, rfl⟩) rfl (Nat.le_of_ble_eq_true rfl) [] [0, 1, 2, 3, 4, 5, 6, 7, 8, 9, 10, 11, 12, 13, 14, 15, 16, 17, 18, 19, 20, 21, 22, 23, 24, 25, 26, 27, 28, 29, 30, 31, 32, 33, 34, 35, 36, 37, 38, 39, 40, 41, 42, 43, 44, 45, 46, 47, 48, 49, 50, 51, 52, 53, 54, 55, 56, 57, 58, 59] rfl rfl rfl rfl (by decide) (fun q hq => Or.inl (ro_of_wr (ws := wLw cI cZ cW hx a g gL gS gW gT gO gP gU gA gE gQ n hcol hlen rcol rlen nr scol slen ns σ α ρ) (wr := wT0 hx (zhh a) (zhr1 a) (zhs1 a) (zh a) (zhi a) (zha a) n ++ (wW cI (zhh a) (zah a) hcol hlen ++ (wL cI cW (zhr1 a) (zar a) 10 (zrwa a) (zrca a) rcol rlen nr ++ (wL cI cW (zhs1 a) (zas a) 5 (zswa a) (zsca a) scol slen ns ++ (wS cI cZ (zh a) (zaE a) (zaL a) (zaF a) (zaR a) (zaS a) σ ++ (wA cI cZ (zha a) (zh a) (zhs1 a) (zaU a) (zaN a) (zaT a) (zaG a) α)))))) [0, 1, 2, 3, 4, 5, 6, 7, 8, 9, 10, 11, 12, 13, 14, 15, 16, 17, 18, 19, 20, 21, 22, 23, 24, 25, 26, 27, 28, 29, 30, 31, 32, 33, 34, 35, 36, 37, 38, 39, 40, 41, 42, 44, 45, 46, 47, 48] rfl (by decide) hq)) dL_law_306 (fun r u hp => ?_)
      have hp : r = nI d2 := hp
      subst hp
      refine r_perm (ws' := wLw cI cZ cW hx a g gL gS gW gT gO gP gU gA gE gQ n hcol hlen rcol rlen nr scol slen ns σ α ρ) [0, 1, 2, 3, 4, 5, 6, 7, 8, 9, 10, 11, 12, 13, 14, 15, 16, 17, 18, 19, 20, 21, 22, 23, 24, 25, 26, 27, 28, 29, 30, 31, 32, 33, 34, 35, 36, 37, 38, 39, 40, 41, 42, 43, 44, 45, 46, 47, 48, 49, 50, 51, 52, 53, 54, 55, 56, 57, 58, 59] rfl rfl ?_
      show V p l e room_1 s m #[Value.ref b] below meth c D A 4 60 23880 Q (wLw cI cZ cW hx a g gL gS gW gT gO gP gU gA gE gQ n hcol hlen rcol rlen nr scol slen ns σ α ρ) 309 [(3, .int (nI i)), (2, .ref g), (1, .ref hx), (0, .ref b)] [.int (nI d2)]
      refine r_aload_n hc dL_law_309 rfl 1 rfl ?_
      refine r_aload_n hc dL_law_310 rfl 3 rfl ?_
      refine r_iload_n hc dL_law_311 rfl 0 rfl ?_
      refine r_iconst (v := nI 1) hc dL_law_312 rfl ?_
      refine n_add hc dL_law_313 ?_
      refine r_sld hc hX hbl hbA hv (vp_in_nI (by omega) (by omega)) dL_law_314 ?_
      refine r_aload_n hc dL_law_315 rfl 3 rfl ?_
      refine r_iload_n hc dL_law_316 rfl 0 rfl ?_
      refine r_iconst (v := nI 2) hc dL_law_317 rfl ?_
      refine n_add hc dL_law_318 ?_
      refine r_sld hc hX hbl hbA hy (vp_in_nI (by omega) (by omega)) dL_law_319 ?_
      refine r_callI (As := [.int (nI k), .int y]) (n := 2) (wr := wT0 hx (zhh a) (zhr1 a) (zhs1 a) (zh a) (zhi a) (zha a) n ++ (wW cI (zhh a) (zah a) hcol hlen ++ (wL cI cW (zhr1 a) (zar a) 10 (zrwa a) (zrca a) rcol rlen nr ++ (wL cI cW (zhs1 a) (zas a) 5 (zswa a) (zsca a) scol slen ns ++ (wS cI cZ (zh a) (zaE a) (zaL a) (zaF a) (zaR a) (zaS a) σ ++ (wI (zhi a) (zh a) (zhr1 a) (zhs1 a) ++ (wA cI cZ (zha a) (zh a) (zhs1 a) (zaU a) (zaN a) (zaT a) (zaG a) α))))))) hc (m_entry l D cI cZ cW g gL gS gW gT gO gP gU gA gE gQ ρ hcm (lF ρ (sN n σ)) (q_num h hcm) lF_B hBR k d2 y hk2 (fun τ hF => by rw [q_in h hcm hF]; exact hk) (fun τ ⟨nu, na, nd, e, _, _⟩ => by rw [e]; show isLt (rN ρ) y = true; rw [w3]; exact hy0) e4) co_yX6_entry in_X6 ml_L_55 (by decide +kernel) rfl ⟨Nat.le_of_ble_eq_true rfl, Nat.le_of_ble_eq_true rfl⟩ ⟨Nat.le_of_ble_eq_true rfl, Nat.le_of_ble_eq_true rfl⟩ im_yX6_entry se_yX6_entry rfl (Or.inl ⟨49, _, rfl⟩) rfl (Nat.le_of_ble_eq_true rfl) [49, 50, 51, 52, 53, 54, 55, 56, 57, 58, 59] [0, 1, 2, 3, 4, 5, 6, 7, 8, 9, 10, 11, 12, 13, 14, 15, 16, 17, 18, 19, 20, 21, 22, 23, 24, 25, 26, 27, 28, 29, 30, 31, 32, 33, 34, 35, 36, 37, 38, 39, 40, 41, 42, 43, 44, 45, 46, 47, 48] rfl rfl rfl rfl (by decide) (fun q hq => absurd hq List.not_mem_nil) dL_law_320 (fun r u hp => ?_)
      obtain ⟨rfl, hF⟩ := hp
      refine r_perm (ws' := wLw cI cZ cW hx a g gL gS gW gT gO gP gU gA gE gQ n hcol hlen rcol rlen nr scol slen ns σ α u) [0, 1, 2, 3, 4, 5, 6, 7, 8, 9, 10, 11, 12, 13, 14, 15, 16, 17, 18, 19, 20, 21, 22, 23, 24, 25, 26, 27, 28, 29, 30, 31, 32, 33, 34, 35, 36, 37, 38, 39, 40, 41, 42, 43, 44, 45, 46, 47, 48, 49, 50, 51, 52, 53, 54, 55, 56, 57, 58, 59] rfl rfl ?_
      show V p l e room_1 s m #[Value.ref b] below meth c D A 4 60 23880 Q (wLw cI cZ cW hx a g gL gS gW gT gO gP gU gA gE gQ n hcol hlen rcol rlen nr scol slen ns σ α u) 323 [(3, .int (nI i)), (2, .ref g), (1, .ref hx), (0, .ref b)] [.int (nI d2), .int (nI d2)]
      refine r_icmp_eq hc 440 dL_law_323 (by decide) (fun _ => ?_) (fun w => absurd (rfl) w)
      exact kk _ _ _ _ _ _ _ _ _ _ _ _ (LI_lF h hF)
  · refine r_callI (As := [.int v, .int y]) (n := 2) (wr := wLw cI cZ cW hx a g gL gS gW gT gO gP gU gA gE gQ n hcol hlen rcol rlen nr scol slen ns σ α ρ) hc (c_entry_bad l D cI cZ cW hx (zhh a) (zhr1 a) (zhs1 a) (zh a) (zhi a) (zha a) n (zah a) hcol hlen (zar a) (zrwa a) (zrca a) rcol rlen nr (zas a) (zswa a) (zsca a) scol slen ns (zaE a) (zaL a) (zaF a) (zaR a) (zaS a) σ (zaU a) (zaN a) (zaT a) (zaG a) α v y (Or.inl (in_0 (q_z0 h hcm))) hBA) co_yX5_entry in_X5 ml_L_52 (by decide +kernel) rfl ⟨Nat.le_of_ble_eq_true rfl, Nat.le_of_ble_eq_true rfl⟩ ⟨Nat.le_of_ble_eq_true rfl, Nat.le_of_ble_eq_true rfl⟩ im_yX5_entry se_yX5_entry rfl (Or.inl ⟨0, _, rfl⟩) rfl (Nat.le_of_ble_eq_true rfl) [] [0, 1, 2, 3, 4, 5, 6, 7, 8, 9, 10, 11, 12, 13, 14, 15, 16, 17, 18, 19, 20, 21, 22, 23, 24, 25, 26, 27, 28, 29, 30, 31, 32, 33, 34, 35, 36, 37, 38, 39, 40, 41, 42, 43, 44, 45, 46, 47, 48, 49, 50, 51, 52, 53, 54, 55, 56, 57, 58, 59] rfl rfl rfl rfl (by decide) (fun q hq => Or.inl (ro_of_wr (ws := wLw cI cZ cW hx a g gL gS gW gT gO gP gU gA gE gQ n hcol hlen rcol rlen nr scol slen ns σ α ρ) (wr := wT0 hx (zhh a) (zhr1 a) (zhs1 a) (zh a) (zhi a) (zha a) n ++ (wW cI (zhh a) (zah a) hcol hlen ++ (wL cI cW (zhr1 a) (zar a) 10 (zrwa a) (zrca a) rcol rlen nr ++ (wL cI cW (zhs1 a) (zas a) 5 (zswa a) (zsca a) scol slen ns ++ (wS cI cZ (zh a) (zaE a) (zaL a) (zaF a) (zaR a) (zaS a) σ ++ (wA cI cZ (zha a) (zh a) (zhs1 a) (zaU a) (zaN a) (zaT a) (zaG a) α)))))) [0, 1, 2, 3, 4, 5, 6, 7, 8, 9, 10, 11, 12, 13, 14, 15, 16, 17, 18, 19, 20, 21, 22, 23, 24, 25, 26, 27, 28, 29, 30, 31, 32, 33, 34, 35, 36, 37, 38, 39, 40, 41, 42, 44, 45, 46, 47, 48] rfl (by decide) hq)) dL_law_306 (fun r u hp => ?_)
    have hp : r = -1 := hp
    subst hp
    refine r_perm (ws' := wLw cI cZ cW hx a g gL gS gW gT gO gP gU gA gE gQ n hcol hlen rcol rlen nr scol slen ns σ α ρ) [0, 1, 2, 3, 4, 5, 6, 7, 8, 9, 10, 11, 12, 13, 14, 15, 16, 17, 18, 19, 20, 21, 22, 23, 24, 25, 26, 27, 28, 29, 30, 31, 32, 33, 34, 35, 36, 37, 38, 39, 40, 41, 42, 43, 44, 45, 46, 47, 48, 49, 50, 51, 52, 53, 54, 55, 56, 57, 58, 59] rfl rfl ?_
    show V p l e room_1 s m #[Value.ref b] below meth c D A 4 60 23880 Q (wLw cI cZ cW hx a g gL gS gW gT gO gP gU gA gE gQ n hcol hlen rcol rlen nr scol slen ns σ α ρ) 309 [(3, .int (nI i)), (2, .ref g), (1, .ref hx), (0, .ref b)] [.int (-1)]
    refine r_aload_n hc dL_law_309 rfl 1 rfl ?_
    refine r_aload_n hc dL_law_310 rfl 3 rfl ?_
    refine r_iload_n hc dL_law_311 rfl 0 rfl ?_
    refine r_iconst (v := nI 1) hc dL_law_312 rfl ?_
    refine n_add hc dL_law_313 ?_
    refine r_sld hc hX hbl hbA hv (vp_in_nI (by omega) (by omega)) dL_law_314 ?_
    refine r_aload_n hc dL_law_315 rfl 3 rfl ?_
    refine r_iload_n hc dL_law_316 rfl 0 rfl ?_
    refine r_iconst (v := nI 2) hc dL_law_317 rfl ?_
    refine n_add hc dL_law_318 ?_
    refine r_sld hc hX hbl hbA hy (vp_in_nI (by omega) (by omega)) dL_law_319 ?_
    refine r_callI (As := [.int v, .int y]) (n := 2) (wr := wLw cI cZ cW hx a g gL gS gW gT gO gP gU gA gE gQ n hcol hlen rcol rlen nr scol slen ns σ α ρ) hc (m_entry_n l D cI cZ cW g gL gS gW gT gO gP gU gA gE gQ ρ v y hcm hBR) co_yX6_entry in_X6 ml_L_55 (by decide +kernel) rfl ⟨Nat.le_of_ble_eq_true rfl, Nat.le_of_ble_eq_true rfl⟩ ⟨Nat.le_of_ble_eq_true rfl, Nat.le_of_ble_eq_true rfl⟩ im_yX6_entry se_yX6_entry rfl (Or.inl ⟨49, _, rfl⟩) rfl (Nat.le_of_ble_eq_true rfl) [] [0, 1, 2, 3, 4, 5, 6, 7, 8, 9, 10, 11, 12, 13, 14, 15, 16, 17, 18, 19, 20, 21, 22, 23, 24, 25, 26, 27, 28, 29, 30, 31, 32, 33, 34, 35, 36, 37, 38, 39, 40, 41, 42, 43, 44, 45, 46, 47, 48, 49, 50, 51, 52, 53, 54, 55, 56, 57, 58, 59] rfl rfl rfl rfl (by decide) (fun q hq => Or.inl (ro_of_wr (ws := wLw cI cZ cW hx a g gL gS gW gT gO gP gU gA gE gQ n hcol hlen rcol rlen nr scol slen ns σ α ρ) (wr := wR cI cZ g gL gS gW gT gO gP gU gA gE gQ ρ) [49, 50, 51, 52, 53, 54, 55, 56, 57, 58, 59] rfl (by decide) hq)) dL_law_320 (fun r u hp => ?_)
    have hp : r = -1 := hp
    subst hp
    refine r_perm (ws' := wLw cI cZ cW hx a g gL gS gW gT gO gP gU gA gE gQ n hcol hlen rcol rlen nr scol slen ns σ α ρ) [0, 1, 2, 3, 4, 5, 6, 7, 8, 9, 10, 11, 12, 13, 14, 15, 16, 17, 18, 19, 20, 21, 22, 23, 24, 25, 26, 27, 28, 29, 30, 31, 32, 33, 34, 35, 36, 37, 38, 39, 40, 41, 42, 43, 44, 45, 46, 47, 48, 49, 50, 51, 52, 53, 54, 55, 56, 57, 58, 59] rfl rfl ?_
    show V p l e room_1 s m #[Value.ref b] below meth c D A 4 60 23880 Q (wLw cI cZ cW hx a g gL gS gW gT gO gP gU gA gE gQ n hcol hlen rcol rlen nr scol slen ns σ α ρ) 323 [(3, .int (nI i)), (2, .ref g), (1, .ref hx), (0, .ref b)] [.int (-1), .int (-1)]
    refine r_icmp_eq hc 440 dL_law_323 (by decide) (fun _ => ?_) (fun w => absurd (rfl) w)
    exact kk _ _ _ _ _ _ _ _ _ _ _ _ (h)
end LAW9
