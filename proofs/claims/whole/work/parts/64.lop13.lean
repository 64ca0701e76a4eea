set_option maxHeartbeats 4000000 in
set_option maxRecDepth 100000 in
theorem lop_13 {p : Program} {l : Launch} {e : Env} {s : State} {m : MethodId} {below : List Frame} {meth : Method} {co : Code} {b L : Nat} {xs : Nat → Int32} {A : Nat → Prop} {D : va_G} {cI cL : ClassId} {h0 h1 h2 h3 h4 h5 h6 h7 m0 m1 m2 m3 m4 m5 m6 m7 m8 m9 m10 : Nat} (hL : L ≤ 2560) (C0 : lw_At p s m meth co b L xs) (hA : ∀ q, s.heap.size ≤ q → A q) (hbA : ¬ A b) (hK : va_K D classes [(cI, .int), (cL, .long)] s) (hX : xs_X A s s.heap) {t : Nat} (ht : 5 * t + 5 ≤ L) (next : lw_N p l e s m below meth co b A D cI cL h0 h1 h2 h3 h4 h5 h6 h7 m0 m1 m2 m3 m4 m5 m6 m7 m8 m9 m10 (t + 1)) (rdy : Int32) (opn : Int32) (knd : Int32) (cd : Int32) (cnt : Int32) (S : xs_S) (P : xp_S) (key : Nat → Int32) (pp : Int64) (qq : Int64) (hd : Nat) (rs : Nat → Int32) (st : Nat → Int64) (ww : Nat → Int64) (rr : Nat → Int64) (rt : Nat → Int64) (s2 : Nat → Int64) (s3 : Nat → Int64) (hrd : rdy = 0 ∨ rdy = 1) (hJ : xr_J t opn knd cd cnt S P hd rs st ww rr) (H : Heap) (locs : List Loc) (ls : Array Slot) (hP : va_P D classes [(h0, .inr (2, [.ref h1, .ref h2, .ref h3, .int rdy, .int opn, .int knd, .int cnt])), (h1, .inr (0, [.ref h4, .ref h5, .ref h6, .int (nI S.2.2.2)])), (h4, .inl (cI, 16, .inl S.1)), (h5, .inl (cI, 16, .inl S.2.1)), (h6, .inl (cI, 160, .inl S.2.2.1)), (h2, .inr (1, [.ref h7, .int P.2.1, .int P.2.2.1, .int (nI P.2.2.2)])), (h7, .inl (cI, 8, .inl P.1)), (h3, .inl (cI, 4, .inl key)), (m0, .inr (3, [.int rdy, .int knd, .int cd, .int cnt, .ref m1, .long pp, .long qq, .ref m2, .int (nI hd), .ref m3, .ref m4, .ref m5, .ref m6, .ref m7, .ref m8, .ref m9, .ref m10])), (m1, .inl (cI, 4, .inl key)), (m2, .inl (cI, 128, .inl rs)), (m3, .inl (cL, 8, .inr (.inl st))), (m4, .inl (cL, 80, .inr (.inl (mo_cuf 80)))), (m5, .inl (cL, 16, .inr (.inl (mo_sqf 80)))), (m6, .inl (cL, 80, .inr (.inl ww))), (m7, .inl (cL, 8, .inr (.inl rr))), (m8, .inl (cL, 5, .inr (.inl rt))), (m9, .inl (cL, 10, .inr (.inl s2))), (m10, .inl (cL, 15, .inr (.inl s3)))] H) (hD : va_D A [(h0, .inr (2, [.ref h1, .ref h2, .ref h3, .int rdy, .int opn, .int knd, .int cnt])), (h1, .inr (0, [.ref h4, .ref h5, .ref h6, .int (nI S.2.2.2)])), (h4, .inl (cI, 16, .inl S.1)), (h5, .inl (cI, 16, .inl S.2.1)), (h6, .inl (cI, 160, .inl S.2.2.1)), (h2, .inr (1, [.ref h7, .int P.2.1, .int P.2.2.1, .int (nI P.2.2.2)])), (h7, .inl (cI, 8, .inl P.1)), (h3, .inl (cI, 4, .inl key)), (m0, .inr (3, [.int rdy, .int knd, .int cd, .int cnt, .ref m1, .long pp, .long qq, .ref m2, .int (nI hd), .ref m3, .ref m4, .ref m5, .ref m6, .ref m7, .ref m8, .ref m9, .ref m10])), (m1, .inl (cI, 4, .inl key)), (m2, .inl (cI, 128, .inl rs)), (m3, .inl (cL, 8, .inr (.inl st))), (m4, .inl (cL, 80, .inr (.inl (mo_cuf 80)))), (m5, .inl (cL, 16, .inr (.inl (mo_sqf 80)))), (m6, .inl (cL, 80, .inr (.inl ww))), (m7, .inl (cL, 8, .inr (.inl rr))), (m8, .inl (cL, 5, .inr (.inl rt))), (m9, .inl (cL, 10, .inr (.inl s2))), (m10, .inl (cL, 15, .inr (.inl s3)))]) (hS : va_S A s.heap H locs) (hl : lv_has ls 4 [(0, .ref b), (1, .ref h0), (2, .ref m0), (3, .int (nI (5 * t)))]) : W p l e room_1 s m #[Value.ref b] below meth co H locs 19 590 (lw_Z below #[Value.ref b] s) (F0 m 461 ls []) := by
  obtain ⟨hx, hb, hr, hml, hown, hts0, hX0, hbl, hlocks, hgv⟩ := id C0
  have hts : ∀ w ∈ wsL_law, w.before #[Value.ref b] s = true := fun w h => hts0 w (wsL_law_in w h)
  refine lv_aload_n hx hb dL_law_461 rfl (lv_at hl 1 rfl) ?_
  refine lv_aload_n hx hb dL_law_462 rfl (lv_at hl 0 rfl) ?_
  refine lv_iload_n hx hb dL_law_463 rfl (lv_at hl 3 rfl) ?_
  refine lv_iconst (v := 1) hx hb dL_law_464 (by decide) ?_
  refine xk_iaddN hx hb (5 * t) 1 ((5 * t) + 1) rfl rfl (by omega) dL_law_465 ?_
  refine xk_sld hx hb hX0 hbl hbA hS ((5 * t) + 1) rfl (by omega) (by omega) dL_law_466 ?_
  refine lv_aload_n hx hb dL_law_467 rfl (lv_at hl 0 rfl) ?_
  refine lv_iload_n hx hb dL_law_468 rfl (lv_at hl 3 rfl) ?_
  refine lv_iconst (v := 2) hx hb dL_law_469 (by decide) ?_
  refine xk_iaddN hx hb (5 * t) 2 ((5 * t) + 2) rfl rfl (by omega) dL_law_470 ?_
  refine xk_sld hx hb hX0 hbl hbA hS ((5 * t) + 2) rfl (by omega) (by omega) dL_law_471 ?_
  refine lv_aload_n hx hb dL_law_472 rfl (lv_at hl 0 rfl) ?_
  refine lv_iload_n hx hb dL_law_473 rfl (lv_at hl 3 rfl) ?_
  refine lv_iconst (v := 3) hx hb dL_law_474 (by decide) ?_
  refine xk_iaddN hx hb (5 * t) 3 ((5 * t) + 3) rfl rfl (by omega) dL_law_475 ?_
  refine xk_sld hx hb hX0 hbl hbA hS ((5 * t) + 3) rfl (by omega) (by omega) dL_law_476 ?_
  refine xk_goPI (r := (jc_turned (xs ((5 * t) + 2)) (xs ((5 * t) + 1)) (xs ((5 * t) + 3)))) (va_runV (As := [.int (xs ((5 * t) + 1)), .int (xs ((5 * t) + 2)), .int (xs ((5 * t) + 3))]) (rest := []) ⟨hx, hb, hml, hown, hts⟩ (c_X2_rotr64Lo l D h0 (xs ((5 * t) + 1)) (xs ((5 * t) + 2)) (xs ((5 * t) + 3))) (cwV 3 hts gL_law_X2_rotr64Lo rfl rfl rfl (by decide +kernel) ⟨Nat.le_of_ble_eq_true rfl, Nat.le_of_ble_eq_true rfl⟩) ⟨fun _ _ _ _ q => q, va_recv hK hP (ci := 2) (q0 := 0) rfl rfl, fun _ _ _ => rfl⟩ rfl rfl hl.1 rfl (lv_room (Nat.le_of_ble_eq_true rfl)) dL_law_477 ⟨Nat.le_of_ble_eq_true rfl, Nat.le_of_ble_eq_true rfl⟩) hP hS (fun H locs hP hS => ?_)
  refine lv_aload_n hx hb dL_law_480 rfl (lv_at hl 2 rfl) ?_
  refine lv_aload_n hx hb dL_law_481 rfl (lv_at hl 0 rfl) ?_
  refine lv_iload_n hx hb dL_law_482 rfl (lv_at hl 3 rfl) ?_
  refine lv_iconst (v := 1) hx hb dL_law_483 (by decide) ?_
  refine xk_iaddN hx hb (5 * t) 1 ((5 * t) + 1) rfl rfl (by omega) dL_law_484 ?_
  refine xk_sld hx hb hX0 hbl hbA hS ((5 * t) + 1) rfl (by omega) (by omega) dL_law_485 ?_
  refine lv_aload_n hx hb dL_law_486 rfl (lv_at hl 0 rfl) ?_
  refine lv_iload_n hx hb dL_law_487 rfl (lv_at hl 3 rfl) ?_
  refine lv_iconst (v := 2) hx hb dL_law_488 (by decide) ?_
  refine xk_iaddN hx hb (5 * t) 2 ((5 * t) + 2) rfl rfl (by omega) dL_law_489 ?_
  refine xk_sld hx hb hX0 hbl hbA hS ((5 * t) + 2) rfl (by omega) (by omega) dL_law_490 ?_
  refine lv_aload_n hx hb dL_law_491 rfl (lv_at hl 0 rfl) ?_
  refine lv_iload_n hx hb dL_law_492 rfl (lv_at hl 3 rfl) ?_
  refine lv_iconst (v := 3) hx hb dL_law_493 (by decide) ?_
  refine xk_iaddN hx hb (5 * t) 3 ((5 * t) + 3) rfl rfl (by omega) dL_law_494 ?_
  refine xk_sld hx hb hX0 hbl hbA hS ((5 * t) + 3) rfl (by omega) (by omega) dL_law_495 ?_
  refine xk_goPI (r := (Int64.toInt32 (mo_right (mo_of (xs ((5 * t) + 1)) (xs ((5 * t) + 2))) (xs ((5 * t) + 3))))) (va_runV (As := [.int (xs ((5 * t) + 1)), .int (xs ((5 * t) + 2)), .int (xs ((5 * t) + 3))]) (rest := [.int (jc_turned (xs ((5 * t) + 2)) (xs ((5 * t) + 1)) (xs ((5 * t) + 3)))]) ⟨hx, hb, hml, hown, hts⟩ (c_X3_rotr64Lo l D m0 (xs ((5 * t) + 1)) (xs ((5 * t) + 2)) (xs ((5 * t) + 3))) (cwV 3 hts gL_law_X3_rotr64Lo rfl rfl rfl (by decide +kernel) ⟨Nat.le_of_ble_eq_true rfl, Nat.le_of_ble_eq_true rfl⟩) ⟨fun _ _ _ _ q => q, va_recv hK hP (ci := 3) (q0 := 8) rfl rfl, fun _ _ _ => rfl⟩ rfl rfl hl.1 rfl (lv_room (Nat.le_of_ble_eq_true rfl)) dL_law_496 ⟨Nat.le_of_ble_eq_true rfl, Nat.le_of_ble_eq_true rfl⟩) hP hS (fun H locs hP hS => ?_)
  refine lv_icmp_eq (tgt := 504) hx hb dL_law_499 (by decide) (fun c => ?_) (fun c => ?_)
  · refine lv_iinc (v := nI (5 * (t + 1))) (lv' := [(3, .int (nI (5 * (t + 1)))), (0, .ref b), (1, .ref h0), (2, .ref m0)]) hx hb dL_law_504 hl (k := 3) rfl (xk_i5 (by omega)) (by decide) rfl (fun ls hl => ?_)
    refine lv_goto (tgt := 18) hx hb dL_law_507 (by decide) ?_
    exact next rdy opn knd cd cnt S P key pp qq hd rs st ww rr rt s2 s3 hrd (xr_mono hJ) _ _ _ hP hD hS (lv_sub hl [1, 2, 3, 0] rfl)
  · exact absurd (rt_lo _ _ _) c
