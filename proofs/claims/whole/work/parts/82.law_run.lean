section LAW5
variable {p : Program} {l : Launch} {e : Env} {s : State} {m : MethodId} {below : List Frame} {meth : Method} {c : Code} {D : va_G} {A : Nat → Prop} {Q : State → Prop} {cI cZ cW : ClassId} {b L : Nat} {xs : Nat → Int32} {hx : Nat} {a : AT} {g gL gS gW gT gO gP gU gA gE gQ : Nat}
variable {n : Nat} {hcol : Nat → Nat} {hlen : Nat} {rcol : Nat → Nat → Nat} {rlen : Nat → Nat} {nr : Nat} {scol : Nat → Nat → Nat} {slen : Nat → Nat} {ns : Nat} {σ : CS} {α : AS} {ρ : RS}
set_option maxHeartbeats 4000000 in
set_option maxRecDepth 100000 in
/-- the law: run -/
theorem law_run (hc : CX p s m #[Value.ref b] c cL_law 4 RL D cI cZ cW A) (hX : va_X b L xs s s.heap) (hbl : b < s.heap.size) (hbA : ¬ A b) {i : Nat} (hi : i + 3 ≤ L) (hL : L ≤ 1536) (h : LI n hcol hlen rcol rlen nr scol slen ns σ α ρ) (kk : ∀ n hcol hlen rcol rlen nr scol slen ns σ α ρ, LI n hcol hlen rcol rlen nr scol slen ns σ α ρ → V p l e room_1 s m #[Value.ref b] below meth c D A 4 60 23880 Q (wLw cI cZ cW hx a g gL gS gW gT gO gP gU gA gE gQ n hcol hlen rcol rlen nr scol slen ns σ α ρ) 440 [(3, .int (nI i)), (2, .ref g), (1, .ref hx), (0, .ref b)] []) : V p l e room_1 s m #[Value.ref b] below meth c D A 4 60 23880 Q (wLw cI cZ cW hx a g gL gS gW gT gO gP gU gA gE gQ n hcol hlen rcol rlen nr scol slen ns σ α ρ) 193 [(3, .int (nI i)), (2, .ref g), (1, .ref hx), (0, .ref b)] [] := by
  obtain ⟨hBD, -, -, hBA, hBR, hnw, -⟩ := h.fr
  obtain ⟨w1, w2, w3, w4, w5, w6, w7, w8, w9, w10, w11, w12, w13⟩ := id h.1
  obtain ⟨v, hv⟩ : ∃ v, xs (nI (i + 1)).toNatClampNeg = v := ⟨_, rfl⟩
  refine r_aload_n hc dL_law_193 rfl 2 rfl ?_
  refine r_aload_n hc dL_law_194 rfl 3 rfl ?_
  refine r_iload_n hc dL_law_195 rfl 0 rfl ?_
  refine r_iconst (v := nI 1) hc dL_law_196 rfl ?_
  refine n_add hc dL_law_197 ?_
  refine r_sld hc hX hbl hbA hv (vp_in_nI (by omega) (by omega)) dL_law_198 ?_
  by_cases hv0 : v < nI 1 ∨ ¬ v ≤ nI 200
  · refine r_callI (As := [.int v]) (n := 1) (wr := wLw cI cZ cW hx a g gL gS gW gT gO gP gU gA gE gQ n hcol hlen rcol rlen nr scol slen ns σ α ρ) hc (c_run_bad l D cI cZ cW hx v hv0) co_yX5_run in_X5 ml_L_35 (by decide +kernel) rfl ⟨Nat.le_of_ble_eq_true rfl, Nat.le_of_ble_eq_true rfl⟩ ⟨Nat.le_of_ble_eq_true rfl, Nat.le_of_ble_eq_true rfl⟩ im_yX5_run se_yX5_run rfl (Or.inl ⟨0, _, rfl⟩) rfl (Nat.le_of_ble_eq_true rfl) [] [0, 1, 2, 3, 4, 5, 6, 7, 8, 9, 10, 11, 12, 13, 14, 15, 16, 17, 18, 19, 20, 21, 22, 23, 24, 25, 26, 27, 28, 29, 30, 31, 32, 33, 34, 35, 36, 37, 38, 39, 40, 41, 42, 43, 44, 45, 46, 47, 48, 49, 50, 51, 52, 53, 54, 55, 56, 57, 58, 59] rfl rfl rfl rfl (by decide) (fun q hq => absurd hq List.not_mem_nil) dL_law_199 (fun r u hp => ?_)
    have hp : r = -1 := hp
    subst hp
    refine r_perm (ws' := wLw cI cZ cW hx a g gL gS gW gT gO gP gU gA gE gQ n hcol hlen rcol rlen nr scol slen ns σ α ρ) [0, 1, 2, 3, 4, 5, 6, 7, 8, 9, 10, 11, 12, 13, 14, 15, 16, 17, 18, 19, 20, 21, 22, 23, 24, 25, 26, 27, 28, 29, 30, 31, 32, 33, 34, 35, 36, 37, 38, 39, 40, 41, 42, 43, 44, 45, 46, 47, 48, 49, 50, 51, 52, 53, 54, 55, 56, 57, 58, 59] rfl rfl ?_
    show V p l e room_1 s m #[Value.ref b] below meth c D A 4 60 23880 Q (wLw cI cZ cW hx a g gL gS gW gT gO gP gU gA gE gQ n hcol hlen rcol rlen nr scol slen ns σ α ρ) 202 [(3, .int (nI i)), (2, .ref g), (1, .ref hx), (0, .ref b)] [.int (-1)]
    refine r_aload_n hc dL_law_202 rfl 1 rfl ?_
    refine r_aload_n hc dL_law_203 rfl 3 rfl ?_
    refine r_iload_n hc dL_law_204 rfl 0 rfl ?_
    refine r_iconst (v := nI 1) hc dL_law_205 rfl ?_
    refine n_add hc dL_law_206 ?_
    refine r_sld hc hX hbl hbA hv (vp_in_nI (by omega) (by omega)) dL_law_207 ?_
    refine r_callI (As := [.int v]) (n := 1) (wr := wLw cI cZ cW hx a g gL gS gW gT gO gP gU gA gE gQ n hcol hlen rcol rlen nr scol slen ns σ α ρ) hc (m_run_bad l D cI cZ cW g v hv0) co_yX6_run in_X6 ml_L_38 (by decide +kernel) rfl ⟨Nat.le_of_ble_eq_true rfl, Nat.le_of_ble_eq_true rfl⟩ ⟨Nat.le_of_ble_eq_true rfl, Nat.le_of_ble_eq_true rfl⟩ im_yX6_run se_yX6_run rfl (Or.inl ⟨49, _, rfl⟩) rfl (Nat.le_of_ble_eq_true rfl) [] [0, 1, 2, 3, 4, 5, 6, 7, 8, 9, 10, 11, 12, 13, 14, 15, 16, 17, 18, 19, 20, 21, 22, 23, 24, 25, 26, 27, 28, 29, 30, 31, 32, 33, 34, 35, 36, 37, 38, 39, 40, 41, 42, 43, 44, 45, 46, 47, 48, 49, 50, 51, 52, 53, 54, 55, 56, 57, 58, 59] rfl rfl rfl rfl (by decide) (fun q hq => absurd hq List.not_mem_nil) dL_law_208 (fun r u hp => ?_)
    have hp : r = -1 := hp
    subst hp
    refine r_perm (ws' := wLw cI cZ cW hx a g gL gS gW gT gO gP gU gA gE gQ n hcol hlen rcol rlen nr scol slen ns σ α ρ) [0, 1, 2, 3, 4, 5, 6, 7, 8, 9, 10, 11, 12, 13, 14, 15, 16, 17, 18, 19, 20, 21, 22, 23, 24, 25, 26, 27, 28, 29, 30, 31, 32, 33, 34, 35, 36, 37, 38, 39, 40, 41, 42, 43, 44, 45, 46, 47, 48, 49, 50, 51, 52, 53, 54, 55, 56, 57, 58, 59] rfl rfl ?_
    show V p l e room_1 s m #[Value.ref b] below meth c D A 4 60 23880 Q (wLw cI cZ cW hx a g gL gS gW gT gO gP gU gA gE gQ n hcol hlen rcol rlen nr scol slen ns σ α ρ) 211 [(3, .int (nI i)), (2, .ref g), (1, .ref hx), (0, .ref b)] [.int (-1), .int (-1)]
    refine r_icmp_eq hc 440 dL_law_211 (by decide) (fun _ => ?_) (fun w => absurd (rfl) w)
    exact kk _ _ _ _ _ _ _ _ _ _ _ _ (h)
  · obtain ⟨k, hk1, hk3, rfl⟩ := rng (by decide) hv0
    have hG := h.1.gw
    refine r_callI (As := [.int (nI k)]) (n := 1) (wr := wT0 hx (zhh a) (zhr1 a) (zhs1 a) (zh a) (zhi a) (zha a) n ++ (wW cI (zhh a) (zah a) hcol hlen ++ (wL cI cW (zhr1 a) (zar a) 10 (zrwa a) (zrca a) rcol rlen nr ++ (wL cI cW (zhs1 a) (zas a) 5 (zswa a) (zsca a) scol slen ns ++ (wI (zhi a) (zh a) (zhr1 a) (zhs1 a) ++ (wR cI cZ g gL gS gW gT gO gP gU gA gE gQ ρ)))))) hc (c_run l D cI cZ cW hx (zhh a) (zhr1 a) (zhs1 a) (zh a) (zhi a) (zha a) n (zar a) (zas a) (zrwa a) (zrca a) rcol rlen nr (zswa a) (zsca a) scol slen ns (zaE a) (zaL a) (zaF a) (zaR a) (zaS a) σ (zaU a) (zaN a) (zaT a) (zaG a) α k hk1 hk3 (fun i hi => ⟨(w9 i hi).1, (w9 i hi).2.2.1, w8 i⟩) w6 (fun i hi => ⟨(w13 i hi).1, (w13 i hi).2.2.1, w12 i⟩) w10 hBA (cP (gC n rcol rlen nr scol slen ns) k σ) (fun τ β => Nfin n τ β) (cP_0 (G := gC n rcol rlen nr scol slen ns) hG h.2.1) (fun τ hP => hP.1.1.1) (fun τ o hP q1 q2 q3 => cP_O hP q1 q2 q3) (fun τ hP q1 q2 q3 => cP_S (G := gC n rcol rlen nr scol slen ns) hG hk3 hP q1 q2 q3) (run_giv h)) co_yX5_run in_X5 ml_L_35 (by decide +kernel) rfl ⟨Nat.le_of_ble_eq_true rfl, Nat.le_of_ble_eq_true rfl⟩ ⟨Nat.le_of_ble_eq_true rfl, Nat.le_of_ble_eq_true rfl⟩ im_yX5_run se_yX5_run rfl (Or.inl ⟨0, _, rfl⟩) rfl (Nat.le_of_ble_eq_true rfl) [37, 38, 39, 40, 41, 42, 44, 45, 46, 47, 48] [0, 1, 2, 3, 4, 5, 6, 7, 8, 9, 10, 11, 12, 13, 14, 15, 16, 17, 18, 19, 20, 21, 22, 23, 24, 25, 26, 27, 28, 29, 30, 31, 32, 33, 34, 35, 36, 43, 49, 50, 51, 52, 53, 54, 55, 56, 57, 58, 59] rfl rfl rfl rfl (by decide) (fun q hq => Or.inl (ro_of_wr (ws := wLw cI cZ cW hx a g gL gS gW gT gO gP gU gA gE gQ n hcol hlen rcol rlen nr scol slen ns σ α ρ) (wr := wT0 hx (zhh a) (zhr1 a) (zhs1 a) (zh a) (zhi a) (zha a) n ++ (wI (zhi a) (zh a) (zhr1 a) (zhs1 a) ++ (wL cI cW (zhr1 a) (zar a) 10 (zrwa a) (zrca a) rcol rlen nr ++ (wL cI cW (zhs1 a) (zas a) 5 (zswa a) (zsca a) scol slen ns)))) [0, 43, 3, 4, 5, 6, 7, 8, 9, 10, 11, 12, 13, 14, 15, 16, 17, 18, 19, 20, 21, 22, 23, 24, 25, 26, 27, 28, 29, 30, 31, 32, 33, 34, 35, 36] rfl (by decide) hq)) dL_law_199 (fun r u hp => ?_)
    obtain ⟨σ', α'⟩ := u
    obtain ⟨rfl, hP, hN⟩ := hp
    refine r_perm (ws' := wLw cI cZ cW hx a g gL gS gW gT gO gP gU gA gE gQ n hcol hlen rcol rlen nr scol slen ns σ' α' ρ) [0, 1, 2, 3, 4, 5, 6, 7, 8, 9, 10, 11, 12, 13, 14, 15, 16, 17, 18, 19, 20, 21, 22, 23, 24, 25, 26, 27, 28, 29, 30, 31, 32, 33, 34, 35, 36, 49, 50, 51, 52, 53, 54, 37, 55, 56, 57, 58, 59, 38, 39, 40, 41, 42, 43, 44, 45, 46, 47, 48] rfl rfl ?_
    show V p l e room_1 s m #[Value.ref b] below meth c D A 4 60 23880 Q (wLw cI cZ cW hx a g gL gS gW gT gO gP gU gA gE gQ n hcol hlen rcol rlen nr scol slen ns σ' α' ρ) 202 [(3, .int (nI i)), (2, .ref g), (1, .ref hx), (0, .ref b)] [(.int (nI (sM σ')))]
    refine r_aload_n hc dL_law_202 rfl 1 rfl ?_
    refine r_aload_n hc dL_law_203 rfl 3 rfl ?_
    refine r_iload_n hc dL_law_204 rfl 0 rfl ?_
    refine r_iconst (v := nI 1) hc dL_law_205 rfl ?_
    refine n_add hc dL_law_206 ?_
    refine r_sld hc hX hbl hbA hv (vp_in_nI (by omega) (by omega)) dL_law_207 ?_
    refine r_callI (As := [.int (nI k)]) (n := 1) (wr := wT0 hx (zhh a) (zhr1 a) (zhs1 a) (zh a) (zhi a) (zha a) n ++ (wW cI (zhh a) (zah a) hcol hlen ++ (wL cI cW (zhr1 a) (zar a) 10 (zrwa a) (zrca a) rcol rlen nr ++ (wL cI cW (zhs1 a) (zas a) 5 (zswa a) (zsca a) scol slen ns ++ (wS cI cZ (zh a) (zaE a) (zaL a) (zaF a) (zaR a) (zaS a) σ' ++ (wI (zhi a) (zh a) (zhr1 a) (zhs1 a) ++ (wA cI cZ (zha a) (zh a) (zhs1 a) (zaU a) (zaN a) (zaT a) (zaG a) α'))))))) hc (m_run l D cI cZ cW g gL gS gW gT gO gP gU gA gE gQ ρ k hk1 hk3 (rP k ρ) (rP_0 h.2.2.1) (fun τ hP => ⟨hP.1.1, hP.1.2.1⟩) (fun τ j hP q1 q2 => rP_S hk3 hP q1 q2)) co_yX6_run in_X6 ml_L_38 (by decide +kernel) rfl ⟨Nat.le_of_ble_eq_true rfl, Nat.le_of_ble_eq_true rfl⟩ ⟨Nat.le_of_ble_eq_true rfl, Nat.le_of_ble_eq_true rfl⟩ im_yX6_run se_yX6_run rfl (Or.inl ⟨49, _, rfl⟩) rfl (Nat.le_of_ble_eq_true rfl) [49, 50, 51, 52, 53, 54, 55, 56, 57, 58, 59] [0, 1, 2, 3, 4, 5, 6, 7, 8, 9, 10, 11, 12, 13, 14, 15, 16, 17, 18, 19, 20, 21, 22, 23, 24, 25, 26, 27, 28, 29, 30, 31, 32, 33, 34, 35, 36, 37, 38, 39, 40, 41, 42, 43, 44, 45, 46, 47, 48] rfl rfl rfl rfl (by decide) (fun q hq => absurd hq List.not_mem_nil) dL_law_208 (fun r u hp => ?_)
    obtain ⟨rfl, hR, o, ho, hs⟩ := hp
    obtain ⟨e1, e2⟩ := LI_run h hP hN hR ho hs
    refine r_perm (ws' := wLw cI cZ cW hx a g gL gS gW gT gO gP gU gA gE gQ n hcol hlen rcol rlen nr scol slen ns σ' α' u) [0, 1, 2, 3, 4, 5, 6, 7, 8, 9, 10, 11, 12, 13, 14, 15, 16, 17, 18, 19, 20, 21, 22, 23, 24, 25, 26, 27, 28, 29, 30, 31, 32, 33, 34, 35, 36, 37, 38, 39, 40, 41, 42, 43, 44, 45, 46, 47, 48, 49, 50, 51, 52, 53, 54, 55, 56, 57, 58, 59] rfl rfl ?_
    show V p l e room_1 s m #[Value.ref b] below meth c D A 4 60 23880 Q (wLw cI cZ cW hx a g gL gS gW gT gO gP gU gA gE gQ n hcol hlen rcol rlen nr scol slen ns σ' α' u) 211 [(3, .int (nI i)), (2, .ref g), (1, .ref hx), (0, .ref b)] [.int (nI (rMd u)), (.int (nI (sM σ')))]
    refine r_icmp_eq hc 440 dL_law_211 (by decide) (fun _ => ?_) (fun w => absurd (by rw [e1]) w)
    exact kk _ _ _ _ _ _ _ _ _ _ _ _ (e2)
end LAW5
