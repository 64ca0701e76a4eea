set_option maxHeartbeats 4000000 in
set_option maxRecDepth 100000 in
theorem law_loop {p : Program} {l : Launch} {e : Env} {s : State} {m : MethodId} {below : List Frame} {meth : Method} {co : Code} {b L : Nat} {xs : Nat → Int32} {A : Nat → Prop} {D : va_G} {cI cL : ClassId} {h0 h1 h2 h3 h4 h5 h6 h7 m0 m1 m2 m3 m4 m5 m6 m7 m8 m9 m10 : Nat} (hL : L ≤ 2560) (C0 : lw_At p s m meth co b L xs) (hA : ∀ q, s.heap.size ≤ q → A q) (hAf : ∀ q, A q → s.heap.size ≤ q) (hbA : ¬ A b) (hK : va_K D classes [(cI, .int), (cL, .long)] s) (hX : xs_X A s s.heap) : ∀ d t, t + d = L / 5 → lw_N p l e s m below meth co b A D cI cL h0 h1 h2 h3 h4 h5 h6 h7 m0 m1 m2 m3 m4 m5 m6 m7 m8 m9 m10 t := by
  obtain ⟨hx, hb, hr, hml, hown, hts0, hX0, hbl, hlocks, hgv⟩ := id C0
  intro d
  induction d with
  | zero =>
    intro t ht rdy opn knd cd cnt S P key pp qq hd rs st ww rr rt s2 s3 hrd hJ H locs ls hP hD hS hl
    refine lv_iload_n hx hb dL_law_18 rfl (lv_at hl 3 rfl) ?_
    refine lv_aload_n hx hb dL_law_19 rfl (lv_at hl 0 rfl) ?_
    refine va_slen hx hb hX0 hbl hbA hS dL_law_20 ?_
    refine lv_iconst (v := 5) hx hb dL_law_21 (by decide) ?_
    refine lv_isub hx hb dL_law_22 ?_
    refine lv_icmp_gt (tgt := 510) hx hb dL_law_23 (by decide) (fun c => ?_) (fun c => ?_)
    · refine lv_iconst (v := 1) hx hb dL_law_510 (by decide) ?_
      refine va_forget (fun q hq => hAf _ (hS.2.2 q hq)) ?_
      exact lw_ret hx hb hr hlocks dL_law_511
    · exact absurd ((xk_len hL (by omega)).mpr (by omega)) c
  | succ d ih =>
    intro t ht rdy opn knd cd cnt S P key pp qq hd rs st ww rr rt s2 s3 hrd hJ H locs ls hP hD hS hl
    have next := ih (t + 1) (by omega)
    refine lv_iload_n hx hb dL_law_18 rfl (lv_at hl 3 rfl) ?_
    refine lv_aload_n hx hb dL_law_19 rfl (lv_at hl 0 rfl) ?_
    refine va_slen hx hb hX0 hbl hbA hS dL_law_20 ?_
    refine lv_iconst (v := 5) hx hb dL_law_21 (by decide) ?_
    refine lv_isub hx hb dL_law_22 ?_
    refine lv_icmp_gt (tgt := 510) hx hb dL_law_23 (by decide) (fun c => ?_) (fun c => ?_)
    · exact absurd ((xk_len hL (by omega)).mp c) (by omega)
    · refine lv_aload_n hx hb dL_law_26 rfl (lv_at hl 0 rfl) ?_
      refine lv_iload_n hx hb dL_law_27 rfl (lv_at hl 3 rfl) ?_
      refine xk_sld hx hb hX0 hbl hbA hS (5 * t) rfl (by omega) (by omega) dL_law_28 ?_
      refine lv_bipush (v := 15) hx hb dL_law_29 (by decide) ?_
      refine lv_iand hx hb dL_law_31 ?_
      obtain ⟨k9, hk9, ek9⟩ := pk_andE (xs (5 * t)) (m := 15) 4 (by decide)
      refine xk_as (nI k9) (ek9) ?_
      rcases (show k9 = 0 ∨ k9 = 1 ∨ k9 = 2 ∨ k9 = 3 ∨ k9 = 4 ∨ k9 = 5 ∨ k9 = 6 ∨ k9 = 7 ∨ k9 = 8 ∨ k9 = 9 ∨ k9 = 10 ∨ k9 = 11 ∨ k9 = 12 ∨ k9 = 13 ∨ k9 = 14 ∨ k9 = 15 by omega) with rfl | rfl | rfl | rfl | rfl | rfl | rfl | rfl | rfl | rfl | rfl | rfl | rfl | rfl | rfl | rfl
      · refine lv_tableIn (tgt := 104) hx hb dL_law_32 (by decide) (by decide) rfl (by decide) ?_
        exact lop_0 hL C0 hA hbA hK hX (by omega) next rdy opn knd cd cnt S P key pp qq hd rs st ww rr rt s2 s3 hrd hJ H locs ls hP hD hS hl
      · refine lv_tableIn (tgt := 115) hx hb dL_law_32 (by decide) (by decide) rfl (by decide) ?_
        exact lop_1 hL C0 hA hbA hK hX (by omega) next rdy opn knd cd cnt S P key pp qq hd rs st ww rr rt s2 s3 hrd hJ H locs ls hP hD hS hl
      · refine lv_tableIn (tgt := 138) hx hb dL_law_32 (by decide) (by decide) rfl (by decide) ?_
        exact lop_2 hL C0 hA hbA hK hX (by omega) next rdy opn knd cd cnt S P key pp qq hd rs st ww rr rt s2 s3 hrd hJ H locs ls hP hD hS hl
      · refine lv_tableIn (tgt := 171) hx hb dL_law_32 (by decide) (by decide) rfl (by decide) ?_
        exact lop_3 hL C0 hA hbA hK hX (by omega) next rdy opn knd cd cnt S P key pp qq hd rs st ww rr rt s2 s3 hrd hJ H locs ls hP hD hS hl
      · refine lv_tableIn (tgt := 184) hx hb dL_law_32 (by decide) (by decide) rfl (by decide) ?_
        exact lop_4 hL C0 hA hbA hK hX (by omega) next rdy opn knd cd cnt S P key pp qq hd rs st ww rr rt s2 s3 hrd hJ H locs ls hP hD hS hl
      · refine lv_tableIn (tgt := 207) hx hb dL_law_32 (by decide) (by decide) rfl (by decide) ?_
        exact lop_5 hL C0 hA hbA hK hX (by omega) next rdy opn knd cd cnt S P key pp qq hd rs st ww rr rt s2 s3 hrd hJ H locs ls hP hD hS hl
      · refine lv_tableIn (tgt := 250) hx hb dL_law_32 (by decide) (by decide) rfl (by decide) ?_
        exact lop_6 hL C0 hA hbA hK hX (by omega) next rdy opn knd cd cnt S P key pp qq hd rs st ww rr rt s2 s3 hrd hJ H locs ls hP hD hS hl
      · refine lv_tableIn (tgt := 263) hx hb dL_law_32 (by decide) (by decide) rfl (by decide) ?_
        exact lop_7 hL C0 hA hbA hK hX (by omega) next rdy opn knd cd cnt S P key pp qq hd rs st ww rr rt s2 s3 hrd hJ H locs ls hP hD hS hl
      · refine lv_tableIn (tgt := 286) hx hb dL_law_32 (by decide) (by decide) rfl (by decide) ?_
        exact lop_8 hL C0 hA hbA hK hX (by omega) next rdy opn knd cd cnt S P key pp qq hd rs st ww rr rt s2 s3 hrd hJ H locs ls hP hD hS hl
      · refine lv_tableIn (tgt := 299) hx hb dL_law_32 (by decide) (by decide) rfl (by decide) ?_
        exact lop_9 hL C0 hA hbA hK hX (by omega) next rdy opn knd cd cnt S P key pp qq hd rs st ww rr rt s2 s3 hrd hJ H locs ls hP hD hS hl
      · refine lv_tableIn (tgt := 312) hx hb dL_law_32 (by decide) (by decide) rfl (by decide) ?_
        exact lop_10 hL C0 hA hbA hK hX (by omega) next rdy opn knd cd cnt S P key pp qq hd rs st ww rr rt s2 s3 hrd hJ H locs ls hP hD hS hl
      · refine lv_tableIn (tgt := 365) hx hb dL_law_32 (by decide) (by decide) rfl (by decide) ?_
        exact lop_11 hL C0 hA hbA hK hX (by omega) next rdy opn knd cd cnt S P key pp qq hd rs st ww rr rt s2 s3 hrd hJ H locs ls hP hD hS hl
      · refine lv_tableIn (tgt := 418) hx hb dL_law_32 (by decide) (by decide) rfl (by decide) ?_
        exact lop_12 hL C0 hA hbA hK hX (by omega) next rdy opn knd cd cnt S P key pp qq hd rs st ww rr rt s2 s3 hrd hJ H locs ls hP hD hS hl
      · refine lv_tableIn (tgt := 461) hx hb dL_law_32 (by decide) (by decide) rfl (by decide) ?_
        exact lop_13 hL C0 hA hbA hK hX (by omega) next rdy opn knd cd cnt S P key pp qq hd rs st ww rr rt s2 s3 hrd hJ H locs ls hP hD hS hl
      · refine lv_tableOut (tgt := 504) hx hb dL_law_32 (by decide) (by decide) ?_
        refine lv_iinc (v := nI (5 * (t + 1))) (lv' := [(3, .int (nI (5 * (t + 1)))), (0, .ref b), (1, .ref h0), (2, .ref m0)]) hx hb dL_law_504 hl (k := 3) rfl (xk_i5 (by omega)) (by decide) rfl (fun ls hl => ?_)
        refine lv_goto (tgt := 18) hx hb dL_law_507 (by decide) ?_
        exact next rdy opn knd cd cnt S P key pp qq hd rs st ww rr rt s2 s3 hrd (xr_mono hJ) _ _ _ hP hD hS (lv_sub hl [1, 2, 3, 0] rfl)
      · refine lv_tableOut (tgt := 504) hx hb dL_law_32 (by decide) (by decide) ?_
        refine lv_iinc (v := nI (5 * (t + 1))) (lv' := [(3, .int (nI (5 * (t + 1)))), (0, .ref b), (1, .ref h0), (2, .ref m0)]) hx hb dL_law_504 hl (k := 3) rfl (xk_i5 (by omega)) (by decide) rfl (fun ls hl => ?_)
        refine lv_goto (tgt := 18) hx hb dL_law_507 (by decide) ?_
        exact next rdy opn knd cd cnt S P key pp qq hd rs st ww rr rt s2 s3 hrd (xr_mono hJ) _ _ _ hP hD hS (lv_sub hl [1, 2, 3, 0] rfl)
