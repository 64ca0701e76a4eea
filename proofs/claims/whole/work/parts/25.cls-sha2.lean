abbrev rm_X0_take : Room := { frames := 4, cells := 0, slots := 0, locals := 92 }
set_option maxHeartbeats 4000000 in
set_option maxRecDepth 100000 in
theorem c_X0_take (l : Launch) (D : va_G) (cI cL : ClassId) (sz : Nat) (h1 : Nat) (h4 : Nat) (h5 : Nat) (h6 : Nat) (S : xs_S) (b : Int32) (hk : S.2.2.2 < 128) : xk_V l yX0_take wsX0_take rm_X0_take xs_X D classes [(cI, .int), (cL, .long)] [.ref h1, .int b] [(h1, .inr (0, [.ref h4, .ref h5, .ref h6, .int (nI S.2.2.2)])), (h4, .inl (cI, 16, .inl S.1)), (h5, .inl (cI, 16, .inl S.2.1)), (h6, .inl (cI, 160, .inl S.2.2.1))] [(h1, .inr (0, [.ref h4, .ref h5, .ref h6, .int (nI ((jc_take xs_CR S b).2.2.2))])), (h4, .inl (cI, 16, .inl ((jc_take xs_CR S b).1))), (h5, .inl (cI, 16, .inl ((jc_take xs_CR S b).2.1))), (h6, .inl (cI, 160, .inl ((jc_take xs_CR S b).2.2.1)))] sz := by
  refine xk_entV (cc := cX0_take) (maxL := 3) (by decide) rfl (Nat.le_of_ble_eq_true rfl) ?_
  intro p e s m args below meth co Q A ls hx hb hml hts hown hA hK hP hD hS hX ret hl
  have hl : lv_has ls 3 [(0, .ref h1), (1, .int b)] := hl
  have hi_0 : ∀ w ∈ u_ws RX0 TX0 4, w ∈ wsX0_take := by decide +kernel
  have fl_19 := hts (.fieldLink RX0 19 "WideHash$Sha" "filled" "I") (by decide +kernel)
  have fl_16 := hts (.fieldLink RX0 16 "WideHash$Sha" "schedule" "[I") (by decide +kernel)
  refine lv_aload_n hx hb dX0_take_0 rfl (lv_at hl 0 rfl) ?_
  refine va_get (D := D) (ci := 0) (v := .int (nI S.2.2.2)) (C := RX0) (T := TX0) (N := 4) hx hb hts hi_0 hown hK hP 0 rfl rfl 3 (by decide) fl_19 (fun _ h9 => h9) rfl dX0_take_1 ?_
  refine lv_iconst (v := 2) hx hb dX0_take_4 (by decide) ?_
  refine lv_ishr hx hb dX0_take_5 ?_
  refine xk_as (nI (S.2.2.2 / 4)) (pk_shrN (by omega) _ 2 (by decide)) ?_
  refine lv_istore_n (lv' := [(2, .int (nI (S.2.2.2 / 4))), (0, .ref h1), (1, .int b)]) hx hb dX0_take_6 rfl hl (by decide) rfl (fun ls hl => ?_)
  refine lv_aload_n hx hb dX0_take_7 rfl (lv_at hl 1 rfl) ?_
  refine va_get (D := D) (ci := 0) (v := .ref h6) (C := RX0) (T := TX0) (N := 4) hx hb hts hi_0 hown hK hP 0 rfl rfl 2 (by decide) fl_16 (fun _ h9 => h9) rfl dX0_take_8 ?_
  refine lv_iload_n hx hb dX0_take_11 rfl (lv_at hl 0 rfl) ?_
  refine lv_aload_n hx hb dX0_take_12 rfl (lv_at hl 1 rfl) ?_
  refine va_get (D := D) (ci := 0) (v := .ref h6) (C := RX0) (T := TX0) (N := 4) hx hb hts hi_0 hown hK hP 0 rfl rfl 2 (by decide) fl_16 (fun _ h9 => h9) rfl dX0_take_13 ?_
  refine lv_iload_n hx hb dX0_take_16 rfl (lv_at hl 0 rfl) ?_
  refine xk_iald hx hb hK hP 3 0 rfl rfl (S.2.2.2 / 4) rfl (by omega) (by decide) dX0_take_17 ?_
  refine lv_bipush (v := 8) hx hb dX0_take_18 (by decide) ?_
  refine lv_ishl hx hb dX0_take_20 ?_
  refine lv_iload_n hx hb dX0_take_21 rfl (lv_at hl 2 rfl) ?_
  refine lv_ior hx hb dX0_take_22 ?_
  refine xk_iast hx hb hK hP hD hS 3 0 rfl rfl (S.2.2.2 / 4) rfl (by omega) (by decide) dX0_take_23 (fun H locs hP hD hS => ?_)
  have hP : va_P D classes [(h1, .inr (0, [.ref h4, .ref h5, .ref h6, .int (nI S.2.2.2)])), (h4, .inl (cI, 16, .inl S.1)), (h5, .inl (cI, 16, .inl S.2.1)), (h6, .inl (cI, 160, .inl (upd S.2.2.1 (S.2.2.2 / 4) (((S.2.2.1 (S.2.2.2 / 4)) <<< (8 &&& 31)) ||| b))))] H := hP
  have hD : va_D A [(h1, .inr (0, [.ref h4, .ref h5, .ref h6, .int (nI S.2.2.2)])), (h4, .inl (cI, 16, .inl S.1)), (h5, .inl (cI, 16, .inl S.2.1)), (h6, .inl (cI, 160, .inl (upd S.2.2.1 (S.2.2.2 / 4) (((S.2.2.1 (S.2.2.2 / 4)) <<< (8 &&& 31)) ||| b))))] := hD
  generalize eL1 : upd S.2.2.1 (S.2.2.2 / 4) (((S.2.2.1 (S.2.2.2 / 4)) <<< (8 &&& 31)) ||| b) = L1 at hP hD
  refine lv_aload_n hx hb dX0_take_24 rfl (lv_at hl 1 rfl) ?_
  refine lv_dup hx hb dX0_take_25 rfl ?_
  refine va_get (D := D) (ci := 0) (v := .int (nI S.2.2.2)) (C := RX0) (T := TX0) (N := 4) hx hb hts hi_0 hown hK hP 0 rfl rfl 3 (by decide) fl_19 (fun _ h9 => h9) rfl dX0_take_26 ?_
  refine lv_iconst (v := 1) hx hb dX0_take_29 (by decide) ?_
  refine xk_iaddN hx hb S.2.2.2 1 (S.2.2.2 + 1) rfl rfl (by omega) dX0_take_30 ?_
  refine va_put (D := D) (ci := 0) (v := .int (nI (S.2.2.2 + 1))) (ty := .int) (C := RX0) (T := TX0) (N := 4) hx hb hts hi_0 tyX0 tyX0_ok nmX0 hown hK hP hD hS 0 rfl rfl 3 (by decide) fl_19 (fun _ h9 => h9) rfl (by decide +kernel) rfl rfl (Nat.le_of_ble_eq_true rfl) dX0_take_31 (fun H locs hP hD hS => ?_)
  have hP : va_P D classes [(h1, .inr (0, [.ref h4, .ref h5, .ref h6, .int (nI (S.2.2.2 + 1))])), (h4, .inl (cI, 16, .inl S.1)), (h5, .inl (cI, 16, .inl S.2.1)), (h6, .inl (cI, 160, .inl L1))] H := hP
  have hD : va_D A [(h1, .inr (0, [.ref h4, .ref h5, .ref h6, .int (nI (S.2.2.2 + 1))])), (h4, .inl (cI, 16, .inl S.1)), (h5, .inl (cI, 16, .inl S.2.1)), (h6, .inl (cI, 160, .inl L1))] := hD
  refine lv_aload_n hx hb dX0_take_34 rfl (lv_at hl 1 rfl) ?_
  refine va_get (D := D) (ci := 0) (v := .int (nI (S.2.2.2 + 1))) (C := RX0) (T := TX0) (N := 4) hx hb hts hi_0 hown hK hP 0 rfl rfl 3 (by decide) fl_19 (fun _ h9 => h9) rfl dX0_take_35 ?_
  refine lv_sipush (v := 128) hx hb dX0_take_38 (by decide) ?_
  refine lv_icmp_ne (tgt := 53) hx hb dX0_take_41 (by decide) (fun c1 => ?_) (fun c1 => ?_)
  · have c2 : ¬ (S.2.2.2 + 1 = 128) := fun h => c1 (by rw [h]; rfl)
    subst eL1
    rw [show jc_take xs_CR S b = _ from if_neg c2] at ret
    exact ret _ _ _ _ hP hD hS dX0_take_53
  · have c2 : S.2.2.2 + 1 = 128 := (nI_eq (by omega) (by omega)).mp c1
    refine lv_aload_n hx hb dX0_take_44 rfl (lv_at hl 1 rfl) ?_
    refine xk_goV (wr := []) (w2 := [(h1, .inr (0, [.ref h4, .ref h5, .ref h6, .int (nI (S.2.2.2 + 1))])), (h4, .inl (cI, 16, .inl (jc_mbT xs_CR S.1 S.2.1 L1))), (h5, .inl (cI, 16, .inl (jc_mbL xs_CR S.1 S.2.1 L1))), (h6, .inl (cI, 160, .inl (jc_mbS L1)))]) (va_runV (As := []) (rest := []) ⟨hx, hb, hml, hown, hts⟩ (c_X0_mixBlock l D cI cL H.size h1 h4 h5 h6 (nI (S.2.2.2 + 1)) S.1 S.2.1 L1) (cwV 0 hts gX0_take_X0_mixBlock rfl rfl rfl (by decide +kernel) ⟨Nat.le_of_ble_eq_true rfl, Nat.le_of_ble_eq_true rfl⟩) ⟨xk_blind xs_X_ok, va_recv hK hP (ci := 0) (q0 := 0) rfl rfl, xk_at xs_X_ok hX hP hD hK hS hA [0, 1, 2, 3] rfl (by decide) rfl⟩ rfl rfl hl.1 rfl (lv_room (Nat.le_of_ble_eq_true rfl)) dX0_take_45 ⟨Nat.le_of_ble_eq_true rfl, Nat.le_of_ble_eq_true rfl⟩) hP hD hS hA [0, 1, 2, 3] [] [0, 1, 2, 3] rfl rfl (by decide) (by decide) rfl (by decide) rfl (fun H locs hP hD hS => ?_)
    generalize eL2 : jc_mbT xs_CR S.1 S.2.1 L1 = L2 at hP hD
    generalize eL3 : jc_mbL xs_CR S.1 S.2.1 L1 = L3 at hP hD
    generalize eL4 : jc_mbS L1 = L4 at hP hD
    refine lv_aload_n hx hb dX0_take_48 rfl (lv_at hl 1 rfl) ?_
    refine lv_iconst (v := 0) hx hb dX0_take_49 (by decide) ?_
    refine va_put (D := D) (ci := 0) (v := .int 0) (ty := .int) (C := RX0) (T := TX0) (N := 4) hx hb hts hi_0 tyX0 tyX0_ok nmX0 hown hK hP hD hS 0 rfl rfl 3 (by decide) fl_19 (fun _ h9 => h9) rfl (by decide +kernel) rfl rfl (Nat.le_of_ble_eq_true rfl) dX0_take_50 (fun H locs hP hD hS => ?_)
    have hP : va_P D classes [(h1, .inr (0, [.ref h4, .ref h5, .ref h6, .int 0])), (h4, .inl (cI, 16, .inl L2)), (h5, .inl (cI, 16, .inl L3)), (h6, .inl (cI, 160, .inl L4))] H := hP
    have hD : va_D A [(h1, .inr (0, [.ref h4, .ref h5, .ref h6, .int 0])), (h4, .inl (cI, 16, .inl L2)), (h5, .inl (cI, 16, .inl L3)), (h6, .inl (cI, 160, .inl L4))] := hD
    subst eL1
    subst eL2
    subst eL3
    subst eL4
    rw [show jc_take xs_CR S b = _ from if_pos c2] at ret
    exact ret _ _ _ _ hP hD hS dX0_take_53
theorem jc_take_lt (cr : Nat → Int32) (S : xs_S) (b : Int32) (h : S.2.2.2 < 128) : (jc_take cr S b).2.2.2 < 128 := by
  by_cases c : S.2.2.2 + 1 = 128
  · rw [show jc_take cr S b = _ from if_pos c]; show 0 < 128; omega
  · rw [show jc_take cr S b = _ from if_neg c]; show S.2.2.2 + 1 < 128; omega
theorem jc_pads_lt (cr : Nat → Int32) (S : xs_S) (h : S.2.2.2 < 128) : ∀ n, (jc_pads cr S n).2.2.2 < 128
  | 0 => h
  | n + 1 => jc_take_lt cr _ 0 (jc_pads_lt cr S h n)
abbrev rm_X0_end : Room := { frames := 5, cells := 0, slots := 0, locals := 114 }
set_option maxHeartbeats 4000000 in
set_option maxRecDepth 100000 in
theorem c_X0_end (l : Launch) (D : va_G) (cI cL : ClassId) (sz : Nat) (h1 : Nat) (h4 : Nat) (h5 : Nat) (h6 : Nat) (S : xs_S) (n : Int32) (hk : S.2.2.2 < 128) : xk_V l yX0_end wsX0_end rm_X0_end xs_X D classes [(cI, .int), (cL, .long)] [.ref h1, .int n] [(h1, .inr (0, [.ref h4, .ref h5, .ref h6, .int (nI S.2.2.2)])), (h4, .inl (cI, 16, .inl S.1)), (h5, .inl (cI, 16, .inl S.2.1)), (h6, .inl (cI, 160, .inl S.2.2.1))] [(h1, .inr (0, [.ref h4, .ref h5, .ref h6, .int (nI ((jc_end xs_CR S n).2.2.2))])), (h4, .inl (cI, 16, .inl ((jc_end xs_CR S n).1))), (h5, .inl (cI, 16, .inl ((jc_end xs_CR S n).2.1))), (h6, .inl (cI, 160, .inl ((jc_end xs_CR S n).2.2.1)))] sz := by
  refine xk_entV (cc := cX0_end) (maxL := 4) (by decide) rfl (Nat.le_of_ble_eq_true rfl) ?_
  intro p e s m args below meth co Q A ls hx hb hml hts hown hA hK hP hD hS hX ret hl
  have hl : lv_has ls 4 [(0, .ref h1), (1, .int n)] := hl
  have hi_0 : ∀ w ∈ u_ws RX0 TX0 4, w ∈ wsX0_end := by decide +kernel
  have fl_16 := hts (.fieldLink RX0 16 "WideHash$Sha" "schedule" "[I") (by decide +kernel)
  have hz : jc_z n < 128 := Nat.mod_lt _ (by decide)
  refine lv_aload_n hx hb dX0_end_0 rfl (lv_at hl 0 rfl) ?_
  refine lv_sipush (v := 128) hx hb dX0_end_1 (by decide) ?_
  refine xk_goV (wr := []) (w2 := [(h1, .inr (0, [.ref h4, .ref h5, .ref h6, .int (nI ((jc_take xs_CR S 128).2.2.2))])), (h4, .inl (cI, 16, .inl ((jc_take xs_CR S 128).1))), (h5, .inl (cI, 16, .inl ((jc_take xs_CR S 128).2.1))), (h6, .inl (cI, 160, .inl ((jc_take xs_CR S 128).2.2.1)))]) (va_runV (As := [.int 128]) (rest := []) ⟨hx, hb, hml, hown, hts⟩ (c_X0_take l D cI cL s.heap.size h1 h4 h5 h6 S 128 (by omega)) (cwV 1 hts gX0_end_X0_take rfl rfl rfl (by decide +kernel) ⟨Nat.le_of_ble_eq_true rfl, Nat.le_of_ble_eq_true rfl⟩) ⟨xk_blind xs_X_ok, va_recv hK hP (ci := 0) (q0 := 0) rfl rfl, xk_at xs_X_ok hX hP hD hK hS hA [0, 1, 2, 3] rfl (by decide) rfl⟩ rfl rfl hl.1 rfl (lv_room (Nat.le_of_ble_eq_true rfl)) dX0_end_4 ⟨Nat.le_of_ble_eq_true rfl, Nat.le_of_ble_eq_true rfl⟩) hP hD hS hA [0, 1, 2, 3] [] [0, 1, 2, 3] rfl rfl (by decide) (by decide) rfl (by decide) rfl (fun H locs hP hD hS => ?_)
  refine lv_bipush (v := 111) hx hb dX0_end_7 (by decide) ?_
  refine lv_iload_n hx hb dX0_end_9 rfl (lv_at hl 1 rfl) ?_
  refine lv_isub hx hb dX0_end_10 ?_
  refine lv_bipush (v := 127) hx hb dX0_end_11 (by decide) ?_
  refine lv_iand hx hb dX0_end_13 ?_
  refine xk_as (nI (jc_z n)) (pk_and _ 7 (by decide)) ?_
  refine lv_istore_n (lv' := [(2, .int (nI (jc_z n))), (0, .ref h1), (1, .int n)]) hx hb dX0_end_14 rfl hl (by decide) rfl (fun ls hl => ?_)
  refine lv_iconst (v := 0) hx hb dX0_end_15 (by decide) ?_
  refine lv_istore_n (lv' := [(3, .int 0), (2, .int (nI (jc_z n))), (0, .ref h1), (1, .int n)]) hx hb dX0_end_16 rfl hl (by decide) rfl (fun ls hl => ?_)
  have loopA : ∀ (d : Nat) (j : Nat), (hj : j + d = jc_z n) → ∀ (H : Heap) (locs : List Loc) (ls : Array Slot), va_P D classes [(h1, .inr (0, [.ref h4, .ref h5, .ref h6, .int (nI ((jc_pads xs_CR (jc_take xs_CR S 128) j).2.2.2))])), (h4, .inl (cI, 16, .inl ((jc_pads xs_CR (jc_take xs_CR S 128) j).1))), (h5, .inl (cI, 16, .inl ((jc_pads xs_CR (jc_take xs_CR S 128) j).2.1))), (h6, .inl (cI, 160, .inl ((jc_pads xs_CR (jc_take xs_CR S 128) j).2.2.1)))] H → va_D A [(h1, .inr (0, [.ref h4, .ref h5, .ref h6, .int (nI ((jc_pads xs_CR (jc_take xs_CR S 128) j).2.2.2))])), (h4, .inl (cI, 16, .inl ((jc_pads xs_CR (jc_take xs_CR S 128) j).1))), (h5, .inl (cI, 16, .inl ((jc_pads xs_CR (jc_take xs_CR S 128) j).2.1))), (h6, .inl (cI, 160, .inl ((jc_pads xs_CR (jc_take xs_CR S 128) j).2.2.1)))] → va_S A s.heap H locs → lv_has ls 4 [(0, .ref h1), (1, .int n), (2, .int (nI (jc_z n))), (3, .int (nI j))] → W p l e rm_X0_end s m args below meth co H locs 0 0 Q (F0 m 17 ls []) := by
    intro d
    induction d with
    | zero =>
      intro j hj H locs ls hP hD hS hl
      obtain rfl : j = jc_z n := by omega
      refine lv_iload_n hx hb dX0_end_17 rfl (lv_at hl 3 rfl) ?_
      refine lv_iload_n hx hb dX0_end_18 rfl (lv_at hl 2 rfl) ?_
      refine lv_icmp_ge (tgt := 33) hx hb dX0_end_19 (by decide) (fun c => ?_) (fun c => ?_)
      · refine lv_aload_n hx hb dX0_end_33 rfl (lv_at hl 0 rfl) ?_
        refine va_get (D := D) (ci := 0) (v := .ref h6) (C := RX0) (T := TX0) (N := 4) hx hb hts hi_0 hown hK hP 0 rfl rfl 2 (by decide) fl_16 (fun _ h9 => h9) rfl dX0_end_34 ?_
        refine lv_bipush (v := 28) hx hb dX0_end_37 (by decide) ?_
        refine lv_iconst (v := 0) hx hb dX0_end_39 (by decide) ?_
        refine xk_iast hx hb hK hP hD hS 3 0 rfl rfl 28 rfl (by omega) (by decide) dX0_end_40 (fun H locs hP hD hS => ?_)
        have hP : va_P D classes [(h1, .inr (0, [.ref h4, .ref h5, .ref h6, .int (nI ((jc_pads xs_CR (jc_take xs_CR S 128) (jc_z n)).2.2.2))])), (h4, .inl (cI, 16, .inl ((jc_pads xs_CR (jc_take xs_CR S 128) (jc_z n)).1))), (h5, .inl (cI, 16, .inl ((jc_pads xs_CR (jc_take xs_CR S 128) (jc_z n)).2.1))), (h6, .inl (cI, 160, .inl (upd ((jc_pads xs_CR (jc_take xs_CR S 128) (jc_z n)).2.2.1) 28 0)))] H := hP
        have hD : va_D A [(h1, .inr (0, [.ref h4, .ref h5, .ref h6, .int (nI ((jc_pads xs_CR (jc_take xs_CR S 128) (jc_z n)).2.2.2))])), (h4, .inl (cI, 16, .inl ((jc_pads xs_CR (jc_take xs_CR S 128) (jc_z n)).1))), (h5, .inl (cI, 16, .inl ((jc_pads xs_CR (jc_take xs_CR S 128) (jc_z n)).2.1))), (h6, .inl (cI, 160, .inl (upd ((jc_pads xs_CR (jc_take xs_CR S 128) (jc_z n)).2.2.1) 28 0)))] := hD
        generalize eL1 : upd ((jc_pads xs_CR (jc_take xs_CR S 128) (jc_z n)).2.2.1) 28 0 = L1 at hP hD
        refine lv_aload_n hx hb dX0_end_41 rfl (lv_at hl 0 rfl) ?_
        refine va_get (D := D) (ci := 0) (v := .ref h6) (C := RX0) (T := TX0) (N := 4) hx hb hts hi_0 hown hK hP 0 rfl rfl 2 (by decide) fl_16 (fun _ h9 => h9) rfl dX0_end_42 ?_
        refine lv_bipush (v := 29) hx hb dX0_end_45 (by decide) ?_
        refine lv_iconst (v := 0) hx hb dX0_end_47 (by decide) ?_
        refine xk_iast hx hb hK hP hD hS 3 0 rfl rfl 29 rfl (by omega) (by decide) dX0_end_48 (fun H locs hP hD hS => ?_)
        have hP : va_P D classes [(h1, .inr (0, [.ref h4, .ref h5, .ref h6, .int (nI ((jc_pads xs_CR (jc_take xs_CR S 128) (jc_z n)).2.2.2))])), (h4, .inl (cI, 16, .inl ((jc_pads xs_CR (jc_take xs_CR S 128) (jc_z n)).1))), (h5, .inl (cI, 16, .inl ((jc_pads xs_CR (jc_take xs_CR S 128) (jc_z n)).2.1))), (h6, .inl (cI, 160, .inl (upd L1 29 0)))] H := hP
        have hD : va_D A [(h1, .inr (0, [.ref h4, .ref h5, .ref h6, .int (nI ((jc_pads xs_CR (jc_take xs_CR S 128) (jc_z n)).2.2.2))])), (h4, .inl (cI, 16, .inl ((jc_pads xs_CR (jc_take xs_CR S 128) (jc_z n)).1))), (h5, .inl (cI, 16, .inl ((jc_pads xs_CR (jc_take xs_CR S 128) (jc_z n)).2.1))), (h6, .inl (cI, 160, .inl (upd L1 29 0)))] := hD
        generalize eL2 : upd L1 29 0 = L2 at hP hD
        refine lv_aload_n hx hb dX0_end_49 rfl (lv_at hl 0 rfl) ?_
        refine va_get (D := D) (ci := 0) (v := .ref h6) (C := RX0) (T := TX0) (N := 4) hx hb hts hi_0 hown hK hP 0 rfl rfl 2 (by decide) fl_16 (fun _ h9 => h9) rfl dX0_end_50 ?_
        refine lv_bipush (v := 30) hx hb dX0_end_53 (by decide) ?_
        refine lv_iload_n hx hb dX0_end_55 rfl (lv_at hl 1 rfl) ?_
        refine lv_bipush (v := 29) hx hb dX0_end_56 (by decide) ?_
        refine lv_iushr (v := (xj_u n 29)) hx hb dX0_end_58 rfl ?_
        refine xk_iast hx hb hK hP hD hS 3 0 rfl rfl 30 rfl (by omega) (by decide) dX0_end_59 (fun H locs hP hD hS => ?_)
        have hP : va_P D classes [(h1, .inr (0, [.ref h4, .ref h5, .ref h6, .int (nI ((jc_pads xs_CR (jc_take xs_CR S 128) (jc_z n)).2.2.2))])), (h4, .inl (cI, 16, .inl ((jc_pads xs_CR (jc_take xs_CR S 128) (jc_z n)).1))), (h5, .inl (cI, 16, .inl ((jc_pads xs_CR (jc_take xs_CR S 128) (jc_z n)).2.1))), (h6, .inl (cI, 160, .inl (upd L2 30 (xj_u n 29))))] H := hP
        have hD : va_D A [(h1, .inr (0, [.ref h4, .ref h5, .ref h6, .int (nI ((jc_pads xs_CR (jc_take xs_CR S 128) (jc_z n)).2.2.2))])), (h4, .inl (cI, 16, .inl ((jc_pads xs_CR (jc_take xs_CR S 128) (jc_z n)).1))), (h5, .inl (cI, 16, .inl ((jc_pads xs_CR (jc_take xs_CR S 128) (jc_z n)).2.1))), (h6, .inl (cI, 160, .inl (upd L2 30 (xj_u n 29))))] := hD
        generalize eL3 : upd L2 30 (xj_u n 29) = L3 at hP hD
        refine lv_aload_n hx hb dX0_end_60 rfl (lv_at hl 0 rfl) ?_
        refine va_get (D := D) (ci := 0) (v := .ref h6) (C := RX0) (T := TX0) (N := 4) hx hb hts hi_0 hown hK hP 0 rfl rfl 2 (by decide) fl_16 (fun _ h9 => h9) rfl dX0_end_61 ?_
        refine lv_bipush (v := 31) hx hb dX0_end_64 (by decide) ?_
        refine lv_iload_n hx hb dX0_end_66 rfl (lv_at hl 1 rfl) ?_
        refine lv_iconst (v := 3) hx hb dX0_end_67 (by decide) ?_
        refine lv_ishl hx hb dX0_end_68 ?_
        refine xk_iast hx hb hK hP hD hS 3 0 rfl rfl 31 rfl (by omega) (by decide) dX0_end_69 (fun H locs hP hD hS => ?_)
        have hP : va_P D classes [(h1, .inr (0, [.ref h4, .ref h5, .ref h6, .int (nI ((jc_pads xs_CR (jc_take xs_CR S 128) (jc_z n)).2.2.2))])), (h4, .inl (cI, 16, .inl ((jc_pads xs_CR (jc_take xs_CR S 128) (jc_z n)).1))), (h5, .inl (cI, 16, .inl ((jc_pads xs_CR (jc_take xs_CR S 128) (jc_z n)).2.1))), (h6, .inl (cI, 160, .inl (upd L3 31 (n <<< (3 &&& 31)))))] H := hP
        have hD : va_D A [(h1, .inr (0, [.ref h4, .ref h5, .ref h6, .int (nI ((jc_pads xs_CR (jc_take xs_CR S 128) (jc_z n)).2.2.2))])), (h4, .inl (cI, 16, .inl ((jc_pads xs_CR (jc_take xs_CR S 128) (jc_z n)).1))), (h5, .inl (cI, 16, .inl ((jc_pads xs_CR (jc_take xs_CR S 128) (jc_z n)).2.1))), (h6, .inl (cI, 160, .inl (upd L3 31 (n <<< (3 &&& 31)))))] := hD
        generalize eL4 : upd L3 31 (n <<< (3 &&& 31)) = L4 at hP hD
        refine lv_aload_n hx hb dX0_end_70 rfl (lv_at hl 0 rfl) ?_
        refine xk_goV (wr := []) (w2 := [(h1, .inr (0, [.ref h4, .ref h5, .ref h6, .int (nI ((jc_pads xs_CR (jc_take xs_CR S 128) (jc_z n)).2.2.2))])), (h4, .inl (cI, 16, .inl (jc_mbT xs_CR ((jc_pads xs_CR (jc_take xs_CR S 128) (jc_z n)).1) ((jc_pads xs_CR (jc_take xs_CR S 128) (jc_z n)).2.1) L4))), (h5, .inl (cI, 16, .inl (jc_mbL xs_CR ((jc_pads xs_CR (jc_take xs_CR S 128) (jc_z n)).1) ((jc_pads xs_CR (jc_take xs_CR S 128) (jc_z n)).2.1) L4))), (h6, .inl (cI, 160, .inl (jc_mbS L4)))]) (va_runV (As := []) (rest := []) ⟨hx, hb, hml, hown, hts⟩ (c_X0_mixBlock l D cI cL H.size h1 h4 h5 h6 (nI ((jc_pads xs_CR (jc_take xs_CR S 128) (jc_z n)).2.2.2)) ((jc_pads xs_CR (jc_take xs_CR S 128) (jc_z n)).1) ((jc_pads xs_CR (jc_take xs_CR S 128) (jc_z n)).2.1) L4) (cwV 0 hts gX0_end_X0_mixBlock rfl rfl rfl (by decide +kernel) ⟨Nat.le_of_ble_eq_true rfl, Nat.le_of_ble_eq_true rfl⟩) ⟨xk_blind xs_X_ok, va_recv hK hP (ci := 0) (q0 := 0) rfl rfl, xk_at xs_X_ok hX hP hD hK hS hA [0, 1, 2, 3] rfl (by decide) rfl⟩ rfl rfl hl.1 rfl (lv_room (Nat.le_of_ble_eq_true rfl)) dX0_end_71 ⟨Nat.le_of_ble_eq_true rfl, Nat.le_of_ble_eq_true rfl⟩) hP hD hS hA [0, 1, 2, 3] [] [0, 1, 2, 3] rfl rfl (by decide) (by decide) rfl (by decide) rfl (fun H locs hP hD hS => ?_)
        generalize eL5 : jc_mbT xs_CR ((jc_pads xs_CR (jc_take xs_CR S 128) (jc_z n)).1) ((jc_pads xs_CR (jc_take xs_CR S 128) (jc_z n)).2.1) L4 = L5 at hP hD
        generalize eL6 : jc_mbL xs_CR ((jc_pads xs_CR (jc_take xs_CR S 128) (jc_z n)).1) ((jc_pads xs_CR (jc_take xs_CR S 128) (jc_z n)).2.1) L4 = L6 at hP hD
        generalize eL7 : jc_mbS L4 = L7 at hP hD
        subst eL1
        subst eL2
        subst eL3
        subst eL4
        subst eL5
        subst eL6
        subst eL7
        exact ret _ _ _ _ hP hD hS dX0_end_74
      · exact absurd (nI_le (a := (jc_z n)) (b := (jc_z n)) (by omega) (by omega)) c
    | succ d ihloopA =>
      intro j hj H locs ls hP hD hS hl
      refine lv_iload_n hx hb dX0_end_17 rfl (lv_at hl 3 rfl) ?_
      refine lv_iload_n hx hb dX0_end_18 rfl (lv_at hl 2 rfl) ?_
      refine lv_icmp_ge (tgt := 33) hx hb dX0_end_19 (by decide) (fun c => ?_) (fun c => ?_)
      · exact absurd c (nI_ge (a := j) (b := (jc_z n)) (by omega) (by omega))
      · refine lv_aload_n hx hb dX0_end_22 rfl (lv_at hl 0 rfl) ?_
        refine lv_iconst (v := 0) hx hb dX0_end_23 (by decide) ?_
        refine xk_goV (wr := []) (w2 := [(h1, .inr (0, [.ref h4, .ref h5, .ref h6, .int (nI ((jc_take xs_CR (jc_pads xs_CR (jc_take xs_CR S 128) j) 0).2.2.2))])), (h4, .inl (cI, 16, .inl ((jc_take xs_CR (jc_pads xs_CR (jc_take xs_CR S 128) j) 0).1))), (h5, .inl (cI, 16, .inl ((jc_take xs_CR (jc_pads xs_CR (jc_take xs_CR S 128) j) 0).2.1))), (h6, .inl (cI, 160, .inl ((jc_take xs_CR (jc_pads xs_CR (jc_take xs_CR S 128) j) 0).2.2.1)))]) (va_runV (As := [.int 0]) (rest := []) ⟨hx, hb, hml, hown, hts⟩ (c_X0_take l D cI cL H.size h1 h4 h5 h6 (jc_pads xs_CR (jc_take xs_CR S 128) j) 0 (jc_pads_lt _ _ (jc_take_lt _ _ _ hk) _)) (cwV 1 hts gX0_end_X0_take rfl rfl rfl (by decide +kernel) ⟨Nat.le_of_ble_eq_true rfl, Nat.le_of_ble_eq_true rfl⟩) ⟨xk_blind xs_X_ok, va_recv hK hP (ci := 0) (q0 := 0) rfl rfl, xk_at xs_X_ok hX hP hD hK hS hA [0, 1, 2, 3] rfl (by decide) rfl⟩ rfl rfl hl.1 rfl (lv_room (Nat.le_of_ble_eq_true rfl)) dX0_end_24 ⟨Nat.le_of_ble_eq_true rfl, Nat.le_of_ble_eq_true rfl⟩) hP hD hS hA [0, 1, 2, 3] [] [0, 1, 2, 3] rfl rfl (by decide) (by decide) rfl (by decide) rfl (fun H locs hP hD hS => ?_)
        refine lv_iinc (v := nI (j + 1)) (lv' := [(3, .int (nI (j + 1))), (0, .ref h1), (1, .int n), (2, .int (nI (jc_z n)))]) hx hb dX0_end_27 hl (k := 3) rfl (xk_i1 (by omega)) (by decide) rfl (fun ls hl => ?_)
        refine lv_goto (tgt := 17) hx hb dX0_end_30 (by decide) ?_
        exact ihloopA (j + 1) (by omega) _ _ _ hP hD hS (lv_sub hl [1, 2, 3, 0] rfl)
  exact loopA (jc_z n) 0 (Nat.zero_add _) _ _ _ hP hD hS (lv_sub hl [2, 3, 1, 0] rfl)
abbrev rm_X0_wordAt : Room := { frames := 0, cells := 0, slots := 0, locals := 0 }
set_option maxHeartbeats 4000000 in
set_option maxRecDepth 100000 in
theorem c_X0_wordAt (l : Launch) (D : va_G) (cI cL : ClassId) (sz : Nat) (h1 : Nat) (h4 : Nat) (h5 : Nat) (h6 : Nat) (fl : Int32) (tot : Nat → Int32) (i : Nat) (hi : i < 16) : xk_I l yX0_wordAt wsX0_wordAt rm_X0_wordAt xk_0 D classes [(cI, .int), (cL, .long)] [.ref h1, .int (nI i)] [(h1, .inr (0, [.ref h4, .ref h5, .ref h6, .int fl])), (h4, .inl (cI, 16, .inl tot))] [(h1, .inr (0, [.ref h4, .ref h5, .ref h6, .int fl])), (h4, .inl (cI, 16, .inl tot))] (tot i) sz := by
  refine xk_entI (cc := cX0_wordAt) (maxL := 2) (by decide) rfl (Nat.le_of_ble_eq_true rfl) ?_
  intro p e s m args below meth co Q A ls hx hb hml hts hown hA hK hP hD hS hX ret hl
  have hl : lv_has ls 2 [(0, .ref h1), (1, .int (nI i))] := hl
  have hi_0 : ∀ w ∈ u_ws RX0 TX0 4, w ∈ wsX0_wordAt := by decide +kernel
  have fl_9 := hts (.fieldLink RX0 9 "WideHash$Sha" "total" "[I") (by decide +kernel)
  refine lv_aload_n hx hb dX0_wordAt_0 rfl (lv_at hl 0 rfl) ?_
  refine va_get (D := D) (ci := 0) (v := .ref h4) (C := RX0) (T := TX0) (N := 4) hx hb hts hi_0 hown hK hP 0 rfl rfl 0 (by decide) fl_9 (fun _ h9 => h9) rfl dX0_wordAt_1 ?_
  refine lv_iload_n hx hb dX0_wordAt_4 rfl (lv_at hl 1 rfl) ?_
  refine xk_iald hx hb hK hP 1 0 rfl rfl i rfl (by omega) (by decide) dX0_wordAt_5 ?_
  exact ret _ _ _ _ _ rfl hP hD hS dX0_wordAt_6
abbrev rm_X0_begin_a : Room := { frames := 1, cells := 0, slots := 0, locals := 40 }
set_option maxHeartbeats 4000000 in
set_option maxRecDepth 100000 in
theorem c_X0_begin_a (l : Launch) (D : va_G) (cI cL : ClassId) (sz : Nat) (h1 : Nat) (h4 : Nat) (h5 : Nat) (h6 : Nat) (fl : Int32) (tot : Nat → Int32) : xk_V l yX0_begin wsX0_begin rm_X0_begin_a xs_X D classes [(cI, .int), (cL, .long)] [.ref h1, .int 0] [(h1, .inr (0, [.ref h4, .ref h5, .ref h6, .int fl])), (h4, .inl (cI, 16, .inl tot))] [(h1, .inr (0, [.ref h4, .ref h5, .ref h6, .int 0])), (h4, .inl (cI, 16, .inl (va_cpy xs_SQ tot 0 0 16)))] sz := by
  refine xk_entV (cc := cX0_begin) (maxL := 2) (by decide) rfl (Nat.le_of_ble_eq_true rfl) ?_
  intro p e s m args below meth co Q A ls hx hb hml hts hown hA hK hP hD hS hX ret hl
  have hl : lv_has ls 2 [(0, .ref h1), (1, .int 0)] := hl
  have hi_0 : ∀ w ∈ u_ws RX0 TX0 4, w ∈ wsX0_begin := by decide +kernel
  have fl_23 := hts (.fieldLink RX0 23 "WideHash$Sha" "SQUARE_ROOTS" "[I") (by decide +kernel)
  obtain ⟨tSQUARE_ROOTS, hZ_tSQUARE_ROOTS, hT_tSQUARE_ROOTS⟩ := xs_get_SQUARE_ROOTS hX
  have fl_9 := hts (.fieldLink RX0 9 "WideHash$Sha" "total" "[I") (by decide +kernel)
  have ml_26 := hts (.methodLink RX0 26 arraycopyName) (by decide +kernel)
  have na_ac := hts (.native arraycopyName) (by decide +kernel)
  have st_ac := hts (.static arraycopyName) (by decide +kernel)
  have in_sys := hts (.initialized "java/lang/System") (by decide +kernel)
  have fl_19 := hts (.fieldLink RX0 19 "WideHash$Sha" "filled" "I") (by decide +kernel)
  refine va_gets hx hb hZ_tSQUARE_ROOTS hS hown fl_23 (fun _ h9 => h9) dX0_begin_0 ?_
  refine lv_iload_n hx hb dX0_begin_3 rfl (lv_at hl 1 rfl) ?_
  refine lv_if_eq (tgt := 12) hx hb dX0_begin_4 (by decide) (fun c => ?_) (fun c => ?_)
  · refine lv_iconst (v := 0) hx hb dX0_begin_12 (by decide) ?_
    refine lv_aload_n hx hb dX0_begin_13 rfl (lv_at hl 0 rfl) ?_
    refine va_get (D := D) (ci := 0) (v := .ref h4) (C := RX0) (T := TX0) (N := 4) hx hb hts hi_0 hown hK hP 0 rfl rfl 0 (by decide) fl_9 (fun _ h9 => h9) rfl dX0_begin_14 ?_
    refine lv_iconst (v := 0) hx hb dX0_begin_17 (by decide) ?_
    refine lv_bipush (v := 16) hx hb dX0_begin_18 (by decide) ?_
    refine xk_copyt hx hb (by rw [hml]; exact hl.1.symm) hown ml_26 na_ac st_ac in_sys hK hP hD hS hT_tSQUARE_ROOTS 1 0 rfl rfl (sp := 0) (dp := 0) (n := 16) 0 0 16 rfl rfl rfl (by omega) (by omega) (by decide) (by decide) (Nat.le_of_ble_eq_true rfl) (Nat.le_of_ble_eq_true rfl) dX0_begin_20 (fun H locs hP hD hS => ?_)
    have hP : va_P D classes [(h1, .inr (0, [.ref h4, .ref h5, .ref h6, .int fl])), (h4, .inl (cI, 16, .inl (va_cpy xs_SQ tot 0 0 16)))] H := hP
    have hD : va_D A [(h1, .inr (0, [.ref h4, .ref h5, .ref h6, .int fl])), (h4, .inl (cI, 16, .inl (va_cpy xs_SQ tot 0 0 16)))] := hD
    generalize eL1 : va_cpy xs_SQ tot 0 0 16 = L1 at hP hD
    refine lv_aload_n hx hb dX0_begin_23 rfl (lv_at hl 0 rfl) ?_
    refine lv_iconst (v := 0) hx hb dX0_begin_24 (by decide) ?_
    refine va_put (D := D) (ci := 0) (v := .int 0) (ty := .int) (C := RX0) (T := TX0) (N := 4) hx hb hts hi_0 tyX0 tyX0_ok nmX0 hown hK hP hD hS 0 rfl rfl 3 (by decide) fl_19 (fun _ h9 => h9) rfl (by decide +kernel) rfl rfl (Nat.le_of_ble_eq_true rfl) dX0_begin_25 (fun H locs hP hD hS => ?_)
    have hP : va_P D classes [(h1, .inr (0, [.ref h4, .ref h5, .ref h6, .int 0])), (h4, .inl (cI, 16, .inl L1))] H := hP
    have hD : va_D A [(h1, .inr (0, [.ref h4, .ref h5, .ref h6, .int 0])), (h4, .inl (cI, 16, .inl L1))] := hD
    subst eL1
    exact ret _ _ _ _ hP hD hS dX0_begin_28
  · exact absurd rfl c
abbrev rm_X0_begin_b : Room := { frames := 1, cells := 0, slots := 0, locals := 40 }
set_option maxHeartbeats 4000000 in
set_option maxRecDepth 100000 in
theorem c_X0_begin_b (l : Launch) (D : va_G) (cI cL : ClassId) (sz : Nat) (h1 : Nat) (h4 : Nat) (h5 : Nat) (h6 : Nat) (fl : Int32) (tot : Nat → Int32) : xk_V l yX0_begin wsX0_begin rm_X0_begin_b xs_X D classes [(cI, .int), (cL, .long)] [.ref h1, .int 1] [(h1, .inr (0, [.ref h4, .ref h5, .ref h6, .int fl])), (h4, .inl (cI, 16, .inl tot))] [(h1, .inr (0, [.ref h4, .ref h5, .ref h6, .int 0])), (h4, .inl (cI, 16, .inl (va_cpy xs_SQ tot 16 0 16)))] sz := by
  refine xk_entV (cc := cX0_begin) (maxL := 2) (by decide) rfl (Nat.le_of_ble_eq_true rfl) ?_
  intro p e s m args below meth co Q A ls hx hb hml hts hown hA hK hP hD hS hX ret hl
  have hl : lv_has ls 2 [(0, .ref h1), (1, .int 1)] := hl
  have hi_0 : ∀ w ∈ u_ws RX0 TX0 4, w ∈ wsX0_begin := by decide +kernel
  have fl_23 := hts (.fieldLink RX0 23 "WideHash$Sha" "SQUARE_ROOTS" "[I") (by decide +kernel)
  obtain ⟨tSQUARE_ROOTS, hZ_tSQUARE_ROOTS, hT_tSQUARE_ROOTS⟩ := xs_get_SQUARE_ROOTS hX
  have fl_9 := hts (.fieldLink RX0 9 "WideHash$Sha" "total" "[I") (by decide +kernel)
  have ml_26 := hts (.methodLink RX0 26 arraycopyName) (by decide +kernel)
  have na_ac := hts (.native arraycopyName) (by decide +kernel)
  have st_ac := hts (.static arraycopyName) (by decide +kernel)
  have in_sys := hts (.initialized "java/lang/System") (by decide +kernel)
  have fl_19 := hts (.fieldLink RX0 19 "WideHash$Sha" "filled" "I") (by decide +kernel)
  refine va_gets hx hb hZ_tSQUARE_ROOTS hS hown fl_23 (fun _ h9 => h9) dX0_begin_0 ?_
  refine lv_iload_n hx hb dX0_begin_3 rfl (lv_at hl 1 rfl) ?_
  refine lv_if_eq (tgt := 12) hx hb dX0_begin_4 (by decide) (fun c => ?_) (fun c => ?_)
  · exact absurd c (by decide)
  · refine lv_bipush (v := 16) hx hb dX0_begin_7 (by decide) ?_
    refine lv_goto (tgt := 13) hx hb dX0_begin_9 (by decide) ?_
    refine lv_aload_n hx hb dX0_begin_13 rfl (lv_at hl 0 rfl) ?_
    refine va_get (D := D) (ci := 0) (v := .ref h4) (C := RX0) (T := TX0) (N := 4) hx hb hts hi_0 hown hK hP 0 rfl rfl 0 (by decide) fl_9 (fun _ h9 => h9) rfl dX0_begin_14 ?_
    refine lv_iconst (v := 0) hx hb dX0_begin_17 (by decide) ?_
    refine lv_bipush (v := 16) hx hb dX0_begin_18 (by decide) ?_
    refine xk_copyt hx hb (by rw [hml]; exact hl.1.symm) hown ml_26 na_ac st_ac in_sys hK hP hD hS hT_tSQUARE_ROOTS 1 0 rfl rfl (sp := 16) (dp := 0) (n := 16) 16 0 16 rfl rfl rfl (by omega) (by omega) (by decide) (by decide) (Nat.le_of_ble_eq_true rfl) (Nat.le_of_ble_eq_true rfl) dX0_begin_20 (fun H locs hP hD hS => ?_)
    have hP : va_P D classes [(h1, .inr (0, [.ref h4, .ref h5, .ref h6, .int fl])), (h4, .inl (cI, 16, .inl (va_cpy xs_SQ tot 16 0 16)))] H := hP
    have hD : va_D A [(h1, .inr (0, [.ref h4, .ref h5, .ref h6, .int fl])), (h4, .inl (cI, 16, .inl (va_cpy xs_SQ tot 16 0 16)))] := hD
    generalize eL1 : va_cpy xs_SQ tot 16 0 16 = L1 at hP hD
    refine lv_aload_n hx hb dX0_begin_23 rfl (lv_at hl 0 rfl) ?_
    refine lv_iconst (v := 0) hx hb dX0_begin_24 (by decide) ?_
    refine va_put (D := D) (ci := 0) (v := .int 0) (ty := .int) (C := RX0) (T := TX0) (N := 4) hx hb hts hi_0 tyX0 tyX0_ok nmX0 hown hK hP hD hS 0 rfl rfl 3 (by decide) fl_19 (fun _ h9 => h9) rfl (by decide +kernel) rfl rfl (Nat.le_of_ble_eq_true rfl) dX0_begin_25 (fun H locs hP hD hS => ?_)
    have hP : va_P D classes [(h1, .inr (0, [.ref h4, .ref h5, .ref h6, .int 0])), (h4, .inl (cI, 16, .inl L1))] H := hP
    have hD : va_D A [(h1, .inr (0, [.ref h4, .ref h5, .ref h6, .int 0])), (h4, .inl (cI, 16, .inl L1))] := hD
    subst eL1
    exact ret _ _ _ _ hP hD hS dX0_begin_28
