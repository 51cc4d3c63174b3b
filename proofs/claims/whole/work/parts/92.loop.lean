theorem small {L i : Nat} (h : L < 3) (hi : i ≤ L) : nI L - nI 3 < nI i := by
  have hd : ∀ a, a < 3 → ∀ b, b < 3 → nI a - nI 3 < nI b := by decide
  exact hd L h i (by omega)
section LAW15
variable {p : Program} {l : Launch} {e : Env} {s : State} {m : MethodId} {below : List Frame} {meth : Method} {c : Code} {D : va_G} {A : Nat → Prop} {Q : State → Prop} {cI cZ cW : ClassId} {b L : Nat} {xs : Nat → Int32} {hx : Nat} {a : AT} {g gL gS gW gT gO gP gU gA gE gQ : Nat}
variable {n : Nat} {hcol : Nat → Nat} {hlen : Nat} {rcol : Nat → Nat → Nat} {rlen : Nat → Nat} {nr : Nat} {scol : Nat → Nat → Nat} {slen : Nat → Nat} {ns : Nat} {σ : CS} {α : AS} {ρ : RS}
set_option maxHeartbeats 4000000 in
set_option maxRecDepth 100000 in
/-- the law's loop -/
theorem law_loop (hc : CX p s m #[Value.ref b] c cL_law 4 RL D cI cZ cW A) (hX : va_X b L xs s s.heap) (hbl : b < s.heap.size) (hbA : ¬ A b) (hL : L ≤ 1536) (hend : ∀ (ws : va_W) (lv : List (Nat × Value)), V p l e room_1 s m #[Value.ref b] below meth c D A 4 60 23880 Q ws 446 lv []) (N : Nat) : ∀ (i : Nat), i ≤ L → L - i ≤ N → ∀ n hcol hlen rcol rlen nr scol slen ns σ α ρ, LI n hcol hlen rcol rlen nr scol slen ns σ α ρ → V p l e room_1 s m #[Value.ref b] below meth c D A 4 60 23880 Q (wLw cI cZ cW hx a g gL gS gW gT gO gP gU gA gE gQ n hcol hlen rcol rlen nr scol slen ns σ α ρ) 18 [(3, .int (nI i)), (2, .ref g), (1, .ref hx), (0, .ref b)] [] := by
  induction N with
  | zero =>
    intro i hiL hN n hcol hlen rcol rlen nr scol slen ns σ α ρ h
    refine r_iload_n hc dL_law_18 rfl 0 rfl ?_
    refine r_aload_n hc dL_law_19 rfl 3 rfl ?_
    refine r_slen hc hX hbl hbA dL_law_20 ?_
    refine r_iconst (v := nI 3) hc dL_law_21 rfl ?_
    by_cases h3 : 3 ≤ L
    · refine n_sub hc dL_law_22 h3 ?_
      refine n_icmp_gt hc 446 dL_law_23 (by decide) (by omega) (by omega) (fun h1 => ?_) (fun h1 => ?_)
      · exact hend _ _
      · omega
    · refine r_isub (v := nI L - nI 3) hc dL_law_22 rfl ?_
      refine r_icmp_gt hc 446 dL_law_23 (by decide) (fun _ => ?_) (fun w => absurd (small (by omega) hiL) w)
      exact hend _ _
  | succ N ih =>
    intro i hiL hN n hcol hlen rcol rlen nr scol slen ns σ α ρ h
    refine r_iload_n hc dL_law_18 rfl 0 rfl ?_
    refine r_aload_n hc dL_law_19 rfl 3 rfl ?_
    refine r_slen hc hX hbl hbA dL_law_20 ?_
    refine r_iconst (v := nI 3) hc dL_law_21 rfl ?_
    by_cases h3 : 3 ≤ L
    · refine n_sub hc dL_law_22 h3 ?_
      refine n_icmp_gt hc 446 dL_law_23 (by decide) (by omega) (by omega) (fun h1 => ?_) (fun h1 => ?_)
      · exact hend _ _
      · refine r_aload_n hc dL_law_26 rfl 3 rfl ?_
        refine r_iload_n hc dL_law_27 rfl 0 rfl ?_
        refine r_sld hc hX hbl hbA rfl (vp_in_nI (by omega) (by omega)) dL_law_28 ?_
        refine r_bipush (v := nI 15) hc dL_law_29 rfl ?_
        obtain ⟨j, hj, hx15⟩ := and15 (xs (nI i).toNatClampNeg)
        refine r_iand (v := nI j) hc dL_law_31 hx15 ?_
        have kk : ∀ n hcol hlen rcol rlen nr scol slen ns σ α ρ, LI n hcol hlen rcol rlen nr scol slen ns σ α ρ → V p l e room_1 s m #[Value.ref b] below meth c D A 4 60 23880 Q (wLw cI cZ cW hx a g gL gS gW gT gO gP gU gA gE gQ n hcol hlen rcol rlen nr scol slen ns σ α ρ) 440 [(3, .int (nI i)), (2, .ref g), (1, .ref hx), (0, .ref b)] [] := by
          intro n hcol hlen rcol rlen nr scol slen ns σ α ρ h
          refine r_iinc (k := 0) (v := nI (i + 3)) (lv' := [(3, .int (nI (i + 3))), (2, .ref g), (1, .ref hx), (0, .ref b)]) hc dL_law_440 rfl (nI_add _ _) (by decide) rfl ?_
          refine r_goto hc 18 dL_law_443 (by decide) ?_
          exact ih (i + 3) (by omega) (by omega) n hcol hlen rcol rlen nr scol slen ns σ α ρ h
        have hi3 : i + 3 ≤ L := by omega
        rcases (show j = 0 ∨ j = 1 ∨ j = 2 ∨ j = 3 ∨ j = 4 ∨ j = 5 ∨ j = 6 ∨ j = 7 ∨ j = 8 ∨ j = 9 ∨ j = 10 ∨ j = 11 ∨ j = 12 ∨ j = 13 ∨ j = 14 ∨ j = 15 by omega) with rfl | rfl | rfl | rfl | rfl | rfl | rfl | rfl | rfl | rfl | rfl | rfl | rfl | rfl | rfl | rfl
        · refine r_tsIn (off := 76) hc 108 dL_law_32 (by decide) (by decide) (by decide) (by decide) ?_
          exact law_begin hc hX hbl hbA hi3 hL h kk
        · refine r_tsIn (off := 99) hc 131 dL_law_32 (by decide) (by decide) (by decide) (by decide) ?_
          exact law_letter hc hX hbl hbA hi3 hL h kk
        · refine r_tsIn (off := 122) hc 154 dL_law_32 (by decide) (by decide) (by decide) (by decide) ?_
          exact law_clear hc hX hbl hbA hi3 hL h kk
        · refine r_tsIn (off := 135) hc 167 dL_law_32 (by decide) (by decide) (by decide) (by decide) ?_
          exact law_relator hc hX hbl hbA hi3 hL h kk
        · refine r_tsIn (off := 148) hc 180 dL_law_32 (by decide) (by decide) (by decide) (by decide) ?_
          exact law_subgroup hc hX hbl hbA hi3 hL h kk
        · refine r_tsIn (off := 161) hc 193 dL_law_32 (by decide) (by decide) (by decide) (by decide) ?_
          exact law_run hc hX hbl hbA hi3 hL h kk
        · refine r_tsIn (off := 184) hc 216 dL_law_32 (by decide) (by decide) (by decide) (by decide) ?_
          exact law_count hc hX hbl hbA hi3 hL h kk
        · refine r_tsIn (off := 207) hc 239 dL_law_32 (by decide) (by decide) (by decide) (by decide) ?_
          exact law_known hc hX hbl hbA hi3 hL h kk
        · refine r_tsIn (off := 240) hc 272 dL_law_32 (by decide) (by decide) (by decide) (by decide) ?_
          exact law_number hc hX hbl hbA hi3 hL h kk
        · refine r_tsIn (off := 263) hc 295 dL_law_32 (by decide) (by decide) (by decide) (by decide) ?_
          exact law_entry hc hX hbl hbA hi3 hL h kk
        · refine r_tsIn (off := 296) hc 328 dL_law_32 (by decide) (by decide) (by decide) (by decide) ?_
          exact law_move hc hX hbl hbA hi3 hL h kk
        · refine r_tsIn (off := 319) hc 351 dL_law_32 (by decide) (by decide) (by decide) (by decide) ?_
          exact law_cycles hc hX hbl hbA hi3 hL h kk
        · refine r_tsIn (off := 358) hc 390 dL_law_32 (by decide) (by decide) (by decide) (by decide) ?_
          exact law_order hc hX hbl hbA hi3 hL h kk
        · refine r_tsIn (off := 372) hc 404 dL_law_32 (by decide) (by decide) (by decide) (by decide) ?_
          exact law_resting hc hX hbl hbA hi3 hL h kk
        · refine r_tsIn (off := 385) hc 417 dL_law_32 (by decide) (by decide) (by decide) (by decide) ?_
          exact law_orbit hc hX hbl hbA hi3 hL h kk
        · refine r_tsOut hc 440 dL_law_32 (Or.inr (by decide)) (by decide) ?_
          exact kk n hcol hlen rcol rlen nr scol slen ns σ α ρ h
    · refine r_isub (v := nI L - nI 3) hc dL_law_22 rfl ?_
      refine r_icmp_gt hc 446 dL_law_23 (by decide) (fun _ => ?_) (fun w => absurd (small (by omega) hiL) w)
      exact hend _ _
end LAW15
