section LAW0
variable {p : Program} {l : Launch} {e : Env} {s : State} {m : MethodId} {below : List Frame} {meth : Method} {c : Code} {D : va_G} {A : Nat → Prop} {Q : State → Prop} {cI cZ cW : ClassId} {b L : Nat} {xs : Nat → Int32} {hx : Nat} {a : AT} {g gL gS gW gT gO gP gU gA gE gQ : Nat}
variable {n : Nat} {hcol : Nat → Nat} {hlen : Nat} {rcol : Nat → Nat → Nat} {rlen : Nat → Nat} {nr : Nat} {scol : Nat → Nat → Nat} {slen : Nat → Nat} {ns : Nat} {σ : CS} {α : AS} {ρ : RS}
set_option maxHeartbeats 4000000 in
set_option maxRecDepth 100000 in
/-- the law: begin -/
theorem law_begin (hc : CX p s m #[Value.ref b] c cL_law 4 RL D cI cZ cW A) (hX : va_X b L xs s s.heap) (hbl : b < s.heap.size) (hbA : ¬ A b) {i : Nat} (hi : i + 3 ≤ L) (hL : L ≤ 1536) (h : LI n hcol hlen rcol rlen nr scol slen ns σ α ρ) (kk : ∀ n hcol hlen rcol rlen nr scol slen ns σ α ρ, LI n hcol hlen rcol rlen nr scol slen ns σ α ρ → V p l e room_1 s m #[Value.ref b] below meth c D A 4 60 23880 Q (wLw cI cZ cW hx a g gL gS gW gT gO gP gU gA gE gQ n hcol hlen rcol rlen nr scol slen ns σ α ρ) 440 [(3, .int (nI i)), (2, .ref g), (1, .ref hx), (0, .ref b)] []) : V p l e room_1 s m #[Value.ref b] below meth c D A 4 60 23880 Q (wLw cI cZ cW hx a g gL gS gW gT gO gP gU gA gE gQ n hcol hlen rcol rlen nr scol slen ns σ α ρ) 108 [(3, .int (nI i)), (2, .ref g), (1, .ref hx), (0, .ref b)] [] := by
  obtain ⟨hBD, -, -, hBA, hBR, hnw, -⟩ := h.fr
  obtain ⟨w1, w2, w3, w4, w5, w6, w7, w8, w9, w10, w11, w12, w13⟩ := id h.1
  obtain ⟨v, hv⟩ : ∃ v, xs (nI (i + 1)).toNatClampNeg = v := ⟨_, rfl⟩
  refine r_aload_n hc dL_law_108 rfl 2 rfl ?_
  refine r_aload_n hc dL_law_109 rfl 3 rfl ?_
  refine r_iload_n hc dL_law_110 rfl 0 rfl ?_
  refine r_iconst (v := nI 1) hc dL_law_111 rfl ?_
  refine n_add hc dL_law_112 ?_
  refine r_sld hc hX hbl hbA hv (vp_in_nI (by omega) (by omega)) dL_law_113 ?_
  by_cases hv0 : v < nI 1 ∨ ¬ v ≤ nI 3
  · refine r_callI (As := [.int v]) (n := 1) (wr := wLw cI cZ cW hx a g gL gS gW gT gO gP gU gA gE gQ n hcol hlen rcol rlen nr scol slen ns σ α ρ) hc (c_begin_bad l D cI cZ cW hx v hv0) co_yX5_begin in_X5 ml_L_13 (by decide +kernel) rfl ⟨Nat.le_of_ble_eq_true rfl, Nat.le_of_ble_eq_true rfl⟩ ⟨Nat.le_of_ble_eq_true rfl, Nat.le_of_ble_eq_true rfl⟩ im_yX5_begin se_yX5_begin rfl (Or.inl ⟨0, _, rfl⟩) rfl (Nat.le_of_ble_eq_true rfl) [] [0, 1, 2, 3, 4, 5, 6, 7, 8, 9, 10, 11, 12, 13, 14, 15, 16, 17, 18, 19, 20, 21, 22, 23, 24, 25, 26, 27, 28, 29, 30, 31, 32, 33, 34, 35, 36, 37, 38, 39, 40, 41, 42, 43, 44, 45, 46, 47, 48, 49, 50, 51, 52, 53, 54, 55, 56, 57, 58, 59] rfl rfl rfl rfl (by decide) (fun q hq => absurd hq List.not_mem_nil) dL_law_114 (fun r u hp => ?_)
    have hp : r = -1 := hp
    subst hp
    refine r_perm (ws' := wLw cI cZ cW hx a g gL gS gW gT gO gP gU gA gE gQ n hcol hlen rcol rlen nr scol slen ns σ α ρ) [0, 1, 2, 3, 4, 5, 6, 7, 8, 9, 10, 11, 12, 13, 14, 15, 16, 17, 18, 19, 20, 21, 22, 23, 24, 25, 26, 27, 28, 29, 30, 31, 32, 33, 34, 35, 36, 37, 38, 39, 40, 41, 42, 43, 44, 45, 46, 47, 48, 49, 50, 51, 52, 53, 54, 55, 56, 57, 58, 59] rfl rfl ?_
    show V p l e room_1 s m #[Value.ref b] below meth c D A 4 60 23880 Q (wLw cI cZ cW hx a g gL gS gW gT gO gP gU gA gE gQ n hcol hlen rcol rlen nr scol slen ns σ α ρ) 117 [(3, .int (nI i)), (2, .ref g), (1, .ref hx), (0, .ref b)] [.int (-1)]
    refine r_aload_n hc dL_law_117 rfl 1 rfl ?_
    refine r_aload_n hc dL_law_118 rfl 3 rfl ?_
    refine r_iload_n hc dL_law_119 rfl 0 rfl ?_
    refine r_iconst (v := nI 1) hc dL_law_120 rfl ?_
    refine n_add hc dL_law_121 ?_
    refine r_sld hc hX hbl hbA hv (vp_in_nI (by omega) (by omega)) dL_law_122 ?_
    refine r_callI (As := [.int v]) (n := 1) (wr := wLw cI cZ cW hx a g gL gS gW gT gO gP gU gA gE gQ n hcol hlen rcol rlen nr scol slen ns σ α ρ) hc (m_begin_bad l D cI cZ cW g v hv0) co_yX6_begin in_X6 ml_L_17 (by decide +kernel) rfl ⟨Nat.le_of_ble_eq_true rfl, Nat.le_of_ble_eq_true rfl⟩ ⟨Nat.le_of_ble_eq_true rfl, Nat.le_of_ble_eq_true rfl⟩ im_yX6_begin se_yX6_begin rfl (Or.inl ⟨49, _, rfl⟩) rfl (Nat.le_of_ble_eq_true rfl) [] [0, 1, 2, 3, 4, 5, 6, 7, 8, 9, 10, 11, 12, 13, 14, 15, 16, 17, 18, 19, 20, 21, 22, 23, 24, 25, 26, 27, 28, 29, 30, 31, 32, 33, 34, 35, 36, 37, 38, 39, 40, 41, 42, 43, 44, 45, 46, 47, 48, 49, 50, 51, 52, 53, 54, 55, 56, 57, 58, 59] rfl rfl rfl rfl (by decide) (fun q hq => absurd hq List.not_mem_nil) dL_law_123 (fun r u hp => ?_)
    have hp : r = -1 := hp
    subst hp
    refine r_perm (ws' := wLw cI cZ cW hx a g gL gS gW gT gO gP gU gA gE gQ n hcol hlen rcol rlen nr scol slen ns σ α ρ) [0, 1, 2, 3, 4, 5, 6, 7, 8, 9, 10, 11, 12, 13, 14, 15, 16, 17, 18, 19, 20, 21, 22, 23, 24, 25, 26, 27, 28, 29, 30, 31, 32, 33, 34, 35, 36, 37, 38, 39, 40, 41, 42, 43, 44, 45, 46, 47, 48, 49, 50, 51, 52, 53, 54, 55, 56, 57, 58, 59] rfl rfl ?_
    show V p l e room_1 s m #[Value.ref b] below meth c D A 4 60 23880 Q (wLw cI cZ cW hx a g gL gS gW gT gO gP gU gA gE gQ n hcol hlen rcol rlen nr scol slen ns σ α ρ) 126 [(3, .int (nI i)), (2, .ref g), (1, .ref hx), (0, .ref b)] [.int (-1), .int (-1)]
    refine r_icmp_eq hc 440 dL_law_126 (by decide) (fun _ => ?_) (fun w => absurd (rfl) w)
    exact kk _ _ _ _ _ _ _ _ _ _ _ _ (h)
  · obtain ⟨k, hk1, hk3, rfl⟩ := rng (by decide) hv0
    refine r_callI (As := [.int (nI k)]) (n := 1) (wr := wI (zhi a) (zh a) (zhr1 a) (zhs1 a) ++ (wR cI cZ g gL gS gW gT gO gP gU gA gE gQ ρ)) hc (c_begin l D cI cZ cW hx (zhh a) (zhr1 a) (zhs1 a) (zh a) (zhi a) (zha a) n (zah a) hcol hlen (zar a) (zrwa a) (zrca a) rcol rlen nr (zas a) (zswa a) (zsca a) scol slen ns (zaE a) (zaL a) (zaF a) (zaR a) (zaS a) σ (zaU a) (zaN a) (zaT a) (zaG a) α k hk1 hk3 hBD) co_yX5_begin in_X5 ml_L_13 (by decide +kernel) rfl ⟨Nat.le_of_ble_eq_true rfl, Nat.le_of_ble_eq_true rfl⟩ ⟨Nat.le_of_ble_eq_true rfl, Nat.le_of_ble_eq_true rfl⟩ im_yX5_begin se_yX5_begin rfl (Or.inl ⟨0, _, rfl⟩) rfl (Nat.le_of_ble_eq_true rfl) [0, 1, 2, 3, 4, 5, 6, 7, 8, 9, 10, 11, 12, 13, 14, 15, 16, 17, 18, 19, 20, 21, 22, 23, 24, 25, 26, 27, 28, 29, 30, 31, 32, 33, 34, 35, 36, 37, 38, 39, 40, 41, 42, 44, 45, 46, 47, 48] [43, 49, 50, 51, 52, 53, 54, 55, 56, 57, 58, 59] rfl rfl rfl rfl (by decide) (fun q hq => absurd hq List.not_mem_nil) dL_law_114 (fun r u hp => ?_)
    obtain ⟨rfl, rfl⟩ := hp
    refine r_perm (ws' := wLw cI cZ cW hx a g gL gS gW gT gO gP gU gA gE gQ k hcol 0 rcol rlen 0 scol slen 0 (fMake (fSt0 σ (2 * k))) ((tU α, tN α, tS α, tR α, 0)) ρ) [12, 13, 14, 15, 16, 17, 18, 19, 20, 21, 22, 23, 24, 25, 26, 27, 28, 29, 30, 31, 32, 33, 34, 35, 36, 37, 38, 39, 40, 41, 42, 43, 44, 45, 46, 47, 48, 49, 50, 51, 52, 53, 54, 0, 55, 56, 57, 58, 59, 1, 2, 3, 4, 5, 6, 7, 8, 9, 10, 11] rfl rfl ?_
    show V p l e room_1 s m #[Value.ref b] below meth c D A 4 60 23880 Q (wLw cI cZ cW hx a g gL gS gW gT gO gP gU gA gE gQ k hcol 0 rcol rlen 0 scol slen 0 (fMake (fSt0 σ (2 * k))) ((tU α, tN α, tS α, tR α, 0)) ρ) 117 [(3, .int (nI i)), (2, .ref g), (1, .ref hx), (0, .ref b)] [.int (nI 0)]
    refine r_aload_n hc dL_law_117 rfl 1 rfl ?_
    refine r_aload_n hc dL_law_118 rfl 3 rfl ?_
    refine r_iload_n hc dL_law_119 rfl 0 rfl ?_
    refine r_iconst (v := nI 1) hc dL_law_120 rfl ?_
    refine n_add hc dL_law_121 ?_
    refine r_sld hc hX hbl hbA hv (vp_in_nI (by omega) (by omega)) dL_law_122 ?_
    refine r_callI (As := [.int (nI k)]) (n := 1) (wr := wT0 hx (zhh a) (zhr1 a) (zhs1 a) (zh a) (zhi a) (zha a) k ++ (wW cI (zhh a) (zah a) hcol 0 ++ (wL cI cW (zhr1 a) (zar a) 10 (zrwa a) (zrca a) rcol rlen 0 ++ (wL cI cW (zhs1 a) (zas a) 5 (zswa a) (zsca a) scol slen 0 ++ (wS cI cZ (zh a) (zaE a) (zaL a) (zaF a) (zaR a) (zaS a) (fMake (fSt0 σ (2 * k))) ++ (wI (zhi a) (zh a) (zhr1 a) (zhs1 a) ++ (wA cI cZ (zha a) (zh a) (zhs1 a) (zaU a) (zaN a) (zaT a) (zaG a) ((tU α, tN α, tS α, tR α, 0))))))))) hc (m_begin l D cI cZ cW g gL gS gW gT gO gP gU gA gE gQ ρ k hk1 hk3) co_yX6_begin in_X6 ml_L_17 (by decide +kernel) rfl ⟨Nat.le_of_ble_eq_true rfl, Nat.le_of_ble_eq_true rfl⟩ ⟨Nat.le_of_ble_eq_true rfl, Nat.le_of_ble_eq_true rfl⟩ im_yX6_begin se_yX6_begin rfl (Or.inl ⟨49, _, rfl⟩) rfl (Nat.le_of_ble_eq_true rfl) [49, 50, 51, 52, 53, 54, 55, 56, 57, 58, 59] [0, 1, 2, 3, 4, 5, 6, 7, 8, 9, 10, 11, 12, 13, 14, 15, 16, 17, 18, 19, 20, 21, 22, 23, 24, 25, 26, 27, 28, 29, 30, 31, 32, 33, 34, 35, 36, 37, 38, 39, 40, 41, 42, 43, 44, 45, 46, 47, 48] rfl rfl rfl rfl (by decide) (fun q hq => absurd hq List.not_mem_nil) dL_law_123 (fun r u hp => ?_)
    obtain ⟨rfl, rfl⟩ := hp
    refine r_perm (ws' := wLw cI cZ cW hx a g gL gS gW gT gO gP gU gA gE gQ k hcol 0 rcol rlen 0 scol slen 0 (fMake (fSt0 σ (2 * k))) ((tU α, tN α, tS α, tR α, 0)) (gFresh (gBeg0 ρ k))) [0, 1, 2, 3, 4, 5, 6, 7, 8, 9, 10, 11, 12, 13, 14, 15, 16, 17, 18, 19, 20, 21, 22, 23, 24, 25, 26, 27, 28, 29, 30, 31, 32, 33, 34, 35, 36, 37, 38, 39, 40, 41, 42, 43, 44, 45, 46, 47, 48, 49, 50, 51, 52, 53, 54, 55, 56, 57, 58, 59] rfl rfl ?_
    show V p l e room_1 s m #[Value.ref b] below meth c D A 4 60 23880 Q (wLw cI cZ cW hx a g gL gS gW gT gO gP gU gA gE gQ k hcol 0 rcol rlen 0 scol slen 0 (fMake (fSt0 σ (2 * k))) ((tU α, tN α, tS α, tR α, 0)) (gFresh (gBeg0 ρ k))) 126 [(3, .int (nI i)), (2, .ref g), (1, .ref hx), (0, .ref b)] [.int (nI 0), .int (nI 0)]
    refine r_icmp_eq hc 440 dL_law_126 (by decide) (fun _ => ?_) (fun w => absurd (rfl) w)
    exact kk _ _ _ _ _ _ _ _ _ _ _ _ (LI_begin h hk1 hk3)
end LAW0
