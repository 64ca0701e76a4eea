abbrev rm_X0_chosen : Room := { frames := 0, cells := 0, slots := 0, locals := 0 }
set_option maxHeartbeats 4000000 in
set_option maxRecDepth 100000 in
theorem c_X0_chosen (l : Launch) (D : va_G) (cI cL : ClassId) (sz : Nat) (h1 : Nat) (h4 : Nat) (h5 : Nat) (h6 : Nat) (fl : Int32) (lt : Nat → Int32) (k : Nat) (hk : k < 2) : xk_I l yX0_chosen wsX0_chosen rm_X0_chosen xk_0 D classes [(cI, .int), (cL, .long)] [.ref h1, .int (nI k)] [(h1, .inr (0, [.ref h4, .ref h5, .ref h6, .int fl])), (h5, .inl (cI, 16, .inl lt))] [(h1, .inr (0, [.ref h4, .ref h5, .ref h6, .int fl])), (h5, .inl (cI, 16, .inl lt))] (jc_ch lt k) sz := by
  refine xk_entI (cc := cX0_chosen) (maxL := 3) (by decide) rfl (Nat.le_of_ble_eq_true rfl) ?_
  intro p e s m args below meth co Q A ls hx hb hml hts hown hA hK hP hD hS hX ret hl
  have hl : lv_has ls 3 [(0, .ref h1), (1, .int (nI k))] := hl
  have hi_0 : ∀ w ∈ u_ws RX0 TX0 4, w ∈ wsX0_chosen := by decide +kernel
  have fl_13 := hts (.fieldLink RX0 13 "WideHash$Sha" "letters" "[I") (by decide +kernel)
  refine lv_aload_n hx hb dX0_chosen_0 rfl (lv_at hl 0 rfl) ?_
  refine va_get (D := D) (ci := 0) (v := .ref h5) (C := RX0) (T := TX0) (N := 4) hx hb hts hi_0 hown hK hP 0 rfl rfl 1 (by decide) fl_13 (fun _ h9 => h9) rfl dX0_chosen_1 ?_
  refine lv_bipush (v := 8) hx hb dX0_chosen_4 (by decide) ?_
  refine lv_iload_n hx hb dX0_chosen_6 rfl (lv_at hl 1 rfl) ?_
  refine xk_iaddN hx hb 8 k (8 + k) rfl rfl (by omega) dX0_chosen_7 ?_
  refine xk_iald hx hb hK hP 1 0 rfl rfl (8 + k) rfl (by omega) (by decide) dX0_chosen_8 ?_
  refine lv_istore_n (lv' := [(2, .int (lt (8 + k))), (0, .ref h1), (1, .int (nI k))]) hx hb dX0_chosen_9 rfl hl (by decide) rfl (fun ls hl => ?_)
  refine lv_iload_n hx hb dX0_chosen_10 rfl (lv_at hl 0 rfl) ?_
  refine lv_aload_n hx hb dX0_chosen_11 rfl (lv_at hl 1 rfl) ?_
  refine va_get (D := D) (ci := 0) (v := .ref h5) (C := RX0) (T := TX0) (N := 4) hx hb hts hi_0 hown hK hP 0 rfl rfl 1 (by decide) fl_13 (fun _ h9 => h9) rfl dX0_chosen_12 ?_
  refine lv_bipush (v := 10) hx hb dX0_chosen_15 (by decide) ?_
  refine lv_iload_n hx hb dX0_chosen_17 rfl (lv_at hl 2 rfl) ?_
  refine xk_iaddN hx hb 10 k (10 + k) rfl rfl (by omega) dX0_chosen_18 ?_
  refine xk_iald hx hb hK hP 1 0 rfl rfl (10 + k) rfl (by omega) (by decide) dX0_chosen_19 ?_
  refine lv_iand hx hb dX0_chosen_20 ?_
  refine lv_iload_n hx hb dX0_chosen_21 rfl (lv_at hl 0 rfl) ?_
  refine lv_iconst (v := (-1)) hx hb dX0_chosen_22 (by decide) ?_
  refine lv_ixor hx hb dX0_chosen_23 ?_
  refine lv_aload_n hx hb dX0_chosen_24 rfl (lv_at hl 1 rfl) ?_
  refine va_get (D := D) (ci := 0) (v := .ref h5) (C := RX0) (T := TX0) (N := 4) hx hb hts hi_0 hown hK hP 0 rfl rfl 1 (by decide) fl_13 (fun _ h9 => h9) rfl dX0_chosen_25 ?_
  refine lv_bipush (v := 12) hx hb dX0_chosen_28 (by decide) ?_
  refine lv_iload_n hx hb dX0_chosen_30 rfl (lv_at hl 2 rfl) ?_
  refine xk_iaddN hx hb 12 k (12 + k) rfl rfl (by omega) dX0_chosen_31 ?_
  refine xk_iald hx hb hK hP 1 0 rfl rfl (12 + k) rfl (by omega) (by decide) dX0_chosen_32 ?_
  refine lv_iand hx hb dX0_chosen_33 ?_
  refine lv_ixor hx hb dX0_chosen_34 ?_
  exact ret _ _ _ _ _ rfl hP hD hS dX0_chosen_35
abbrev rm_X0_majority : Room := { frames := 0, cells := 0, slots := 0, locals := 0 }
set_option maxHeartbeats 4000000 in
set_option maxRecDepth 100000 in
theorem c_X0_majority (l : Launch) (D : va_G) (cI cL : ClassId) (sz : Nat) (h1 : Nat) (h4 : Nat) (h5 : Nat) (h6 : Nat) (fl : Int32) (lt : Nat → Int32) (k : Nat) (hk : k < 2) : xk_I l yX0_majority wsX0_majority rm_X0_majority xk_0 D classes [(cI, .int), (cL, .long)] [.ref h1, .int (nI k)] [(h1, .inr (0, [.ref h4, .ref h5, .ref h6, .int fl])), (h5, .inl (cI, 16, .inl lt))] [(h1, .inr (0, [.ref h4, .ref h5, .ref h6, .int fl])), (h5, .inl (cI, 16, .inl lt))] (jc_mj lt k) sz := by
  refine xk_entI (cc := cX0_majority) (maxL := 5) (by decide) rfl (Nat.le_of_ble_eq_true rfl) ?_
  intro p e s m args below meth co Q A ls hx hb hml hts hown hA hK hP hD hS hX ret hl
  have hl : lv_has ls 5 [(0, .ref h1), (1, .int (nI k))] := hl
  have hi_0 : ∀ w ∈ u_ws RX0 TX0 4, w ∈ wsX0_majority := by decide +kernel
  have fl_13 := hts (.fieldLink RX0 13 "WideHash$Sha" "letters" "[I") (by decide +kernel)
  refine lv_aload_n hx hb dX0_majority_0 rfl (lv_at hl 0 rfl) ?_
  refine va_get (D := D) (ci := 0) (v := .ref h5) (C := RX0) (T := TX0) (N := 4) hx hb hts hi_0 hown hK hP 0 rfl rfl 1 (by decide) fl_13 (fun _ h9 => h9) rfl dX0_majority_1 ?_
  refine lv_iconst (v := 0) hx hb dX0_majority_4 (by decide) ?_
  refine lv_iload_n hx hb dX0_majority_5 rfl (lv_at hl 1 rfl) ?_
  refine xk_iaddN hx hb 0 k (0 + k) rfl rfl (by omega) dX0_majority_6 ?_
  refine xk_iald hx hb hK hP 1 0 rfl rfl (0 + k) rfl (by omega) (by decide) dX0_majority_7 ?_
  refine lv_istore_n (lv' := [(2, .int (lt (0 + k))), (0, .ref h1), (1, .int (nI k))]) hx hb dX0_majority_8 rfl hl (by decide) rfl (fun ls hl => ?_)
  refine lv_aload_n hx hb dX0_majority_9 rfl (lv_at hl 1 rfl) ?_
  refine va_get (D := D) (ci := 0) (v := .ref h5) (C := RX0) (T := TX0) (N := 4) hx hb hts hi_0 hown hK hP 0 rfl rfl 1 (by decide) fl_13 (fun _ h9 => h9) rfl dX0_majority_10 ?_
  refine lv_iconst (v := 2) hx hb dX0_majority_13 (by decide) ?_
  refine lv_iload_n hx hb dX0_majority_14 rfl (lv_at hl 2 rfl) ?_
  refine xk_iaddN hx hb 2 k (2 + k) rfl rfl (by omega) dX0_majority_15 ?_
  refine xk_iald hx hb hK hP 1 0 rfl rfl (2 + k) rfl (by omega) (by decide) dX0_majority_16 ?_
  refine lv_istore_n (lv' := [(3, .int (lt (2 + k))), (2, .int (lt (0 + k))), (0, .ref h1), (1, .int (nI k))]) hx hb dX0_majority_17 rfl hl (by decide) rfl (fun ls hl => ?_)
  refine lv_aload_n hx hb dX0_majority_18 rfl (lv_at hl 2 rfl) ?_
  refine va_get (D := D) (ci := 0) (v := .ref h5) (C := RX0) (T := TX0) (N := 4) hx hb hts hi_0 hown hK hP 0 rfl rfl 1 (by decide) fl_13 (fun _ h9 => h9) rfl dX0_majority_19 ?_
  refine lv_iconst (v := 4) hx hb dX0_majority_22 (by decide) ?_
  refine lv_iload_n hx hb dX0_majority_23 rfl (lv_at hl 3 rfl) ?_
  refine xk_iaddN hx hb 4 k (4 + k) rfl rfl (by omega) dX0_majority_24 ?_
  refine xk_iald hx hb hK hP 1 0 rfl rfl (4 + k) rfl (by omega) (by decide) dX0_majority_25 ?_
  refine lv_istore (lv' := [(4, .int (lt (4 + k))), (3, .int (lt (2 + k))), (2, .int (lt (0 + k))), (0, .ref h1), (1, .int (nI k))]) hx hb dX0_majority_26 hl (by decide) rfl (fun ls hl => ?_)
  refine lv_iload_n hx hb dX0_majority_28 rfl (lv_at hl 2 rfl) ?_
  refine lv_iload_n hx hb dX0_majority_29 rfl (lv_at hl 1 rfl) ?_
  refine lv_iand hx hb dX0_majority_30 ?_
  refine lv_iload_n hx hb dX0_majority_31 rfl (lv_at hl 2 rfl) ?_
  refine lv_iload hx hb dX0_majority_32 (lv_at hl 0 rfl) ?_
  refine lv_iand hx hb dX0_majority_34 ?_
  refine lv_ixor hx hb dX0_majority_35 ?_
  refine lv_iload_n hx hb dX0_majority_36 rfl (lv_at hl 1 rfl) ?_
  refine lv_iload hx hb dX0_majority_37 (lv_at hl 0 rfl) ?_
  refine lv_iand hx hb dX0_majority_39 ?_
  refine lv_ixor hx hb dX0_majority_40 ?_
  exact ret _ _ _ _ _ rfl hP hD hS dX0_majority_41
abbrev rm_X0_extend : Room := { frames := 2, cells := 0, slots := 0, locals := 44 }
set_option maxHeartbeats 4000000 in
set_option maxRecDepth 100000 in
theorem c_X0_extend (l : Launch) (D : va_G) (cI cL : ClassId) (sz : Nat) (h1 : Nat) (h4 : Nat) (h5 : Nat) (h6 : Nat) (fl : Int32) (sch : Nat → Int32) (k : Nat) (hk : 32 ≤ k) (hk2 : k + 1 < 160) : xk_V l yX0_extend wsX0_extend rm_X0_extend xs_X D classes [(cI, .int), (cL, .long)] [.ref h1, .int (nI k)] [(h1, .inr (0, [.ref h4, .ref h5, .ref h6, .int fl])), (h6, .inl (cI, 160, .inl sch))] [(h1, .inr (0, [.ref h4, .ref h5, .ref h6, .int fl])), (h6, .inl (cI, 160, .inl (jc_extend sch k)))] sz := by
  refine xk_entV (cc := cX0_extend) (maxL := 6) (by decide) rfl (Nat.le_of_ble_eq_true rfl) ?_
  intro p e s m args below meth co Q A ls hx hb hml hts hown hA hK hP hD hS hX ret hl
  have hl : lv_has ls 6 [(0, .ref h1), (1, .int (nI k))] := hl
  have hi_0 : ∀ w ∈ u_ws RX0 TX0 4, w ∈ wsX0_extend := by decide +kernel
  have fl_16 := hts (.fieldLink RX0 16 "WideHash$Sha" "schedule" "[I") (by decide +kernel)
  have in_X2 := hts (.initialized RX2) (by decide +kernel)
  have sm_51 := hts (.static yX2_turned) (by decide +kernel)
  have sm_45 := hts (.static yX2_addTo) (by decide +kernel)
  refine lv_aload_n hx hb dX0_extend_0 rfl (lv_at hl 0 rfl) ?_
  refine va_get (D := D) (ci := 0) (v := .ref h6) (C := RX0) (T := TX0) (N := 4) hx hb hts hi_0 hown hK hP 0 rfl rfl 2 (by decide) fl_16 (fun _ h9 => h9) rfl dX0_extend_1 ?_
  refine lv_iload_n hx hb dX0_extend_4 rfl (lv_at hl 1 rfl) ?_
  refine lv_bipush (v := 30) hx hb dX0_extend_5 (by decide) ?_
  refine xk_isubN hx hb k 30 (k - 30) rfl rfl (by omega) dX0_extend_7 ?_
  refine xk_iald hx hb hK hP 1 0 rfl rfl (k - 30) rfl (by omega) (by decide) dX0_extend_8 ?_
  refine lv_istore_n (lv' := [(2, .int (sch (k - 30))), (0, .ref h1), (1, .int (nI k))]) hx hb dX0_extend_9 rfl hl (by decide) rfl (fun ls hl => ?_)
  refine lv_aload_n hx hb dX0_extend_10 rfl (lv_at hl 1 rfl) ?_
  refine va_get (D := D) (ci := 0) (v := .ref h6) (C := RX0) (T := TX0) (N := 4) hx hb hts hi_0 hown hK hP 0 rfl rfl 2 (by decide) fl_16 (fun _ h9 => h9) rfl dX0_extend_11 ?_
  refine lv_iload_n hx hb dX0_extend_14 rfl (lv_at hl 2 rfl) ?_
  refine lv_bipush (v := 29) hx hb dX0_extend_15 (by decide) ?_
  refine xk_isubN hx hb k 29 (k - 29) rfl rfl (by omega) dX0_extend_17 ?_
  refine xk_iald hx hb hK hP 1 0 rfl rfl (k - 29) rfl (by omega) (by decide) dX0_extend_18 ?_
  refine lv_istore_n (lv' := [(3, .int (sch (k - 29))), (2, .int (sch (k - 30))), (0, .ref h1), (1, .int (nI k))]) hx hb dX0_extend_19 rfl hl (by decide) rfl (fun ls hl => ?_)
  refine lv_aload_n hx hb dX0_extend_20 rfl (lv_at hl 2 rfl) ?_
  refine va_get (D := D) (ci := 0) (v := .ref h6) (C := RX0) (T := TX0) (N := 4) hx hb hts hi_0 hown hK hP 0 rfl rfl 2 (by decide) fl_16 (fun _ h9 => h9) rfl dX0_extend_21 ?_
  refine lv_iload_n hx hb dX0_extend_24 rfl (lv_at hl 3 rfl) ?_
  refine lv_iconst (v := 4) hx hb dX0_extend_25 (by decide) ?_
  refine xk_isubN hx hb k 4 (k - 4) rfl rfl (by omega) dX0_extend_26 ?_
  refine xk_iald hx hb hK hP 1 0 rfl rfl (k - 4) rfl (by omega) (by decide) dX0_extend_27 ?_
  refine lv_istore (lv' := [(4, .int (sch (k - 4))), (3, .int (sch (k - 29))), (2, .int (sch (k - 30))), (0, .ref h1), (1, .int (nI k))]) hx hb dX0_extend_28 hl (by decide) rfl (fun ls hl => ?_)
  refine lv_aload_n hx hb dX0_extend_30 rfl (lv_at hl 3 rfl) ?_
  refine va_get (D := D) (ci := 0) (v := .ref h6) (C := RX0) (T := TX0) (N := 4) hx hb hts hi_0 hown hK hP 0 rfl rfl 2 (by decide) fl_16 (fun _ h9 => h9) rfl dX0_extend_31 ?_
  refine lv_iload_n hx hb dX0_extend_34 rfl (lv_at hl 4 rfl) ?_
  refine lv_iconst (v := 3) hx hb dX0_extend_35 (by decide) ?_
  refine xk_isubN hx hb k 3 (k - 3) rfl rfl (by omega) dX0_extend_36 ?_
  refine xk_iald hx hb hK hP 1 0 rfl rfl (k - 3) rfl (by omega) (by decide) dX0_extend_37 ?_
  refine lv_istore (lv' := [(5, .int (sch (k - 3))), (4, .int (sch (k - 4))), (3, .int (sch (k - 29))), (2, .int (sch (k - 30))), (0, .ref h1), (1, .int (nI k))]) hx hb dX0_extend_38 hl (by decide) rfl (fun ls hl => ?_)
  refine lv_aload_n hx hb dX0_extend_40 rfl (lv_at hl 4 rfl) ?_
  refine va_get (D := D) (ci := 0) (v := .ref h6) (C := RX0) (T := TX0) (N := 4) hx hb hts hi_0 hown hK hP 0 rfl rfl 2 (by decide) fl_16 (fun _ h9 => h9) rfl dX0_extend_41 ?_
  refine lv_iload_n hx hb dX0_extend_44 rfl (lv_at hl 5 rfl) ?_
  refine lv_aload_n hx hb dX0_extend_45 rfl (lv_at hl 4 rfl) ?_
  refine va_get (D := D) (ci := 0) (v := .ref h6) (C := RX0) (T := TX0) (N := 4) hx hb hts hi_0 hown hK hP 0 rfl rfl 2 (by decide) fl_16 (fun _ h9 => h9) rfl dX0_extend_46 ?_
  refine lv_iload_n hx hb dX0_extend_49 rfl (lv_at hl 5 rfl) ?_
  refine lv_bipush (v := 32) hx hb dX0_extend_50 (by decide) ?_
  refine xk_isubN hx hb k 32 (k - 32) rfl rfl (by omega) dX0_extend_52 ?_
  refine xk_iald hx hb hK hP 1 0 rfl rfl (k - 32) rfl (by omega) (by decide) dX0_extend_53 ?_
  refine xk_iast hx hb hK hP hD hS 1 0 rfl rfl k rfl (by omega) (by decide) dX0_extend_54 (fun H locs hP hD hS => ?_)
  have hP : va_P D classes [(h1, .inr (0, [.ref h4, .ref h5, .ref h6, .int fl])), (h6, .inl (cI, 160, .inl (upd sch k (sch (k - 32)))))] H := hP
  have hD : va_D A [(h1, .inr (0, [.ref h4, .ref h5, .ref h6, .int fl])), (h6, .inl (cI, 160, .inl (upd sch k (sch (k - 32)))))] := hD
  generalize eL1 : upd sch k (sch (k - 32)) = L1 at hP hD
  refine lv_aload_n hx hb dX0_extend_55 rfl (lv_at hl 4 rfl) ?_
  refine va_get (D := D) (ci := 0) (v := .ref h6) (C := RX0) (T := TX0) (N := 4) hx hb hts hi_0 hown hK hP 0 rfl rfl 2 (by decide) fl_16 (fun _ h9 => h9) rfl dX0_extend_56 ?_
  refine lv_iload_n hx hb dX0_extend_59 rfl (lv_at hl 5 rfl) ?_
  refine lv_iconst (v := 1) hx hb dX0_extend_60 (by decide) ?_
  refine xk_iaddN hx hb k 1 (k + 1) rfl rfl (by omega) dX0_extend_61 ?_
  refine lv_aload_n hx hb dX0_extend_62 rfl (lv_at hl 4 rfl) ?_
  refine va_get (D := D) (ci := 0) (v := .ref h6) (C := RX0) (T := TX0) (N := 4) hx hb hts hi_0 hown hK hP 0 rfl rfl 2 (by decide) fl_16 (fun _ h9 => h9) rfl dX0_extend_63 ?_
  refine lv_iload_n hx hb dX0_extend_66 rfl (lv_at hl 5 rfl) ?_
  refine lv_bipush (v := 31) hx hb dX0_extend_67 (by decide) ?_
  refine xk_isubN hx hb k 31 (k - 31) rfl rfl (by omega) dX0_extend_69 ?_
  refine xk_iald hx hb hK hP 1 0 rfl rfl (k - 31) rfl (by omega) (by decide) dX0_extend_70 ?_
  refine xk_iast hx hb hK hP hD hS 1 0 rfl rfl (k + 1) rfl (by omega) (by decide) dX0_extend_71 (fun H locs hP hD hS => ?_)
  have hP : va_P D classes [(h1, .inr (0, [.ref h4, .ref h5, .ref h6, .int fl])), (h6, .inl (cI, 160, .inl (upd L1 (k + 1) (L1 (k - 31)))))] H := hP
  have hD : va_D A [(h1, .inr (0, [.ref h4, .ref h5, .ref h6, .int fl])), (h6, .inl (cI, 160, .inl (upd L1 (k + 1) (L1 (k - 31)))))] := hD
  generalize eL2 : upd L1 (k + 1) (L1 (k - 31)) = L2 at hP hD
  refine lv_aload_n hx hb dX0_extend_72 rfl (lv_at hl 4 rfl) ?_
  refine va_get (D := D) (ci := 0) (v := .ref h6) (C := RX0) (T := TX0) (N := 4) hx hb hts hi_0 hown hK hP 0 rfl rfl 2 (by decide) fl_16 (fun _ h9 => h9) rfl dX0_extend_73 ?_
  refine lv_iload_n hx hb dX0_extend_76 rfl (lv_at hl 5 rfl) ?_
  refine lv_iload_n hx hb dX0_extend_77 rfl (lv_at hl 3 rfl) ?_
  refine lv_iload_n hx hb dX0_extend_78 rfl (lv_at hl 2 rfl) ?_
  refine lv_iconst (v := 1) hx hb dX0_extend_79 (by decide) ?_
  refine xk_goPI (r := (jc_turned (sch (k - 30)) (sch (k - 29)) 1)) (va_runSN (As := [.int (sch (k - 30)), .int (sch (k - 29)), .int 1]) (rest := [.int (nI k), .ref h6]) ⟨hx, hb, hml, hown, hts⟩ (c_X2_turned l D (sch (k - 30)) (sch (k - 29)) 1) ⟨va_cnB 3 hts gX0_extend_X2_turned_n51 rfl rfl rfl (xs_n0_51 hX) in_X2 (by decide +kernel) ⟨Nat.le_of_ble_eq_true rfl, Nat.le_of_ble_eq_true rfl⟩, sm_51, trivial⟩ preEq rfl rfl hl.1 rfl (lv_room (Nat.le_of_ble_eq_true rfl)) dX0_extend_80 ⟨Nat.le_of_ble_eq_true rfl, Nat.le_of_ble_eq_true rfl⟩) hP hS (fun H locs hP hS => ?_)
  refine lv_iload_n hx hb dX0_extend_83 rfl (lv_at hl 3 rfl) ?_
  refine lv_iload_n hx hb dX0_extend_84 rfl (lv_at hl 2 rfl) ?_
  refine lv_bipush (v := 8) hx hb dX0_extend_85 (by decide) ?_
  refine xk_goPI (r := (jc_turned (sch (k - 30)) (sch (k - 29)) 8)) (va_runSN (As := [.int (sch (k - 30)), .int (sch (k - 29)), .int 8]) (rest := [.int (jc_turned (sch (k - 30)) (sch (k - 29)) 1), .int (nI k), .ref h6]) ⟨hx, hb, hml, hown, hts⟩ (c_X2_turned l D (sch (k - 30)) (sch (k - 29)) 8) ⟨va_cnB 3 hts gX0_extend_X2_turned_n51 rfl rfl rfl (xs_n0_51 hX) in_X2 (by decide +kernel) ⟨Nat.le_of_ble_eq_true rfl, Nat.le_of_ble_eq_true rfl⟩, sm_51, trivial⟩ preEq rfl rfl hl.1 rfl (lv_room (Nat.le_of_ble_eq_true rfl)) dX0_extend_87 ⟨Nat.le_of_ble_eq_true rfl, Nat.le_of_ble_eq_true rfl⟩) hP hS (fun H locs hP hS => ?_)
  refine lv_ixor hx hb dX0_extend_90 ?_
  refine lv_iload_n hx hb dX0_extend_91 rfl (lv_at hl 3 rfl) ?_
  refine lv_bipush (v := 7) hx hb dX0_extend_92 (by decide) ?_
  refine lv_iushr (v := (xj_u (sch (k - 30)) 7)) hx hb dX0_extend_94 rfl ?_
  refine lv_ixor hx hb dX0_extend_95 ?_
  refine lv_iload_n hx hb dX0_extend_96 rfl (lv_at hl 2 rfl) ?_
  refine lv_iload_n hx hb dX0_extend_97 rfl (lv_at hl 3 rfl) ?_
  refine lv_iconst (v := 1) hx hb dX0_extend_98 (by decide) ?_
  refine xk_goPI (r := (jc_turned (sch (k - 29)) (sch (k - 30)) 1)) (va_runSN (As := [.int (sch (k - 29)), .int (sch (k - 30)), .int 1]) (rest := [.int (((jc_turned (sch (k - 30)) (sch (k - 29)) 1) ^^^ (jc_turned (sch (k - 30)) (sch (k - 29)) 8)) ^^^ (xj_u (sch (k - 30)) 7)), .int (nI k), .ref h6]) ⟨hx, hb, hml, hown, hts⟩ (c_X2_turned l D (sch (k - 29)) (sch (k - 30)) 1) ⟨va_cnB 3 hts gX0_extend_X2_turned_n51 rfl rfl rfl (xs_n0_51 hX) in_X2 (by decide +kernel) ⟨Nat.le_of_ble_eq_true rfl, Nat.le_of_ble_eq_true rfl⟩, sm_51, trivial⟩ preEq rfl rfl hl.1 rfl (lv_room (Nat.le_of_ble_eq_true rfl)) dX0_extend_99 ⟨Nat.le_of_ble_eq_true rfl, Nat.le_of_ble_eq_true rfl⟩) hP hS (fun H locs hP hS => ?_)
  refine lv_iload_n hx hb dX0_extend_102 rfl (lv_at hl 2 rfl) ?_
  refine lv_iload_n hx hb dX0_extend_103 rfl (lv_at hl 3 rfl) ?_
  refine lv_bipush (v := 8) hx hb dX0_extend_104 (by decide) ?_
  refine xk_goPI (r := (jc_turned (sch (k - 29)) (sch (k - 30)) 8)) (va_runSN (As := [.int (sch (k - 29)), .int (sch (k - 30)), .int 8]) (rest := [.int (jc_turned (sch (k - 29)) (sch (k - 30)) 1), .int (((jc_turned (sch (k - 30)) (sch (k - 29)) 1) ^^^ (jc_turned (sch (k - 30)) (sch (k - 29)) 8)) ^^^ (xj_u (sch (k - 30)) 7)), .int (nI k), .ref h6]) ⟨hx, hb, hml, hown, hts⟩ (c_X2_turned l D (sch (k - 29)) (sch (k - 30)) 8) ⟨va_cnB 3 hts gX0_extend_X2_turned_n51 rfl rfl rfl (xs_n0_51 hX) in_X2 (by decide +kernel) ⟨Nat.le_of_ble_eq_true rfl, Nat.le_of_ble_eq_true rfl⟩, sm_51, trivial⟩ preEq rfl rfl hl.1 rfl (lv_room (Nat.le_of_ble_eq_true rfl)) dX0_extend_106 ⟨Nat.le_of_ble_eq_true rfl, Nat.le_of_ble_eq_true rfl⟩) hP hS (fun H locs hP hS => ?_)
  refine lv_ixor hx hb dX0_extend_109 ?_
  refine lv_iload_n hx hb dX0_extend_110 rfl (lv_at hl 2 rfl) ?_
  refine lv_iload_n hx hb dX0_extend_111 rfl (lv_at hl 3 rfl) ?_
  refine lv_bipush (v := 7) hx hb dX0_extend_112 (by decide) ?_
  refine xk_goPI (r := (jc_turned (sch (k - 29)) (sch (k - 30)) 7)) (va_runSN (As := [.int (sch (k - 29)), .int (sch (k - 30)), .int 7]) (rest := [.int ((jc_turned (sch (k - 29)) (sch (k - 30)) 1) ^^^ (jc_turned (sch (k - 29)) (sch (k - 30)) 8)), .int (((jc_turned (sch (k - 30)) (sch (k - 29)) 1) ^^^ (jc_turned (sch (k - 30)) (sch (k - 29)) 8)) ^^^ (xj_u (sch (k - 30)) 7)), .int (nI k), .ref h6]) ⟨hx, hb, hml, hown, hts⟩ (c_X2_turned l D (sch (k - 29)) (sch (k - 30)) 7) ⟨va_cnB 3 hts gX0_extend_X2_turned_n51 rfl rfl rfl (xs_n0_51 hX) in_X2 (by decide +kernel) ⟨Nat.le_of_ble_eq_true rfl, Nat.le_of_ble_eq_true rfl⟩, sm_51, trivial⟩ preEq rfl rfl hl.1 rfl (lv_room (Nat.le_of_ble_eq_true rfl)) dX0_extend_114 ⟨Nat.le_of_ble_eq_true rfl, Nat.le_of_ble_eq_true rfl⟩) hP hS (fun H locs hP hS => ?_)
  refine lv_ixor hx hb dX0_extend_117 ?_
  refine xk_goV (wr := [(h1, .inr (0, [.ref h4, .ref h5, .ref h6, .int fl]))]) (w2 := [(h1, .inr (0, [.ref h4, .ref h5, .ref h6, .int fl])), (h6, .inl (cI, 160, .inl (jc_addTo L2 k (((jc_turned (sch (k - 30)) (sch (k - 29)) 1) ^^^ (jc_turned (sch (k - 30)) (sch (k - 29)) 8)) ^^^ (xj_u (sch (k - 30)) 7)) (((jc_turned (sch (k - 29)) (sch (k - 30)) 1) ^^^ (jc_turned (sch (k - 29)) (sch (k - 30)) 8)) ^^^ (jc_turned (sch (k - 29)) (sch (k - 30)) 7)))))]) (va_runSN (As := [.ref h6, .int (nI k), .int (((jc_turned (sch (k - 30)) (sch (k - 29)) 1) ^^^ (jc_turned (sch (k - 30)) (sch (k - 29)) 8)) ^^^ (xj_u (sch (k - 30)) 7)), .int (((jc_turned (sch (k - 29)) (sch (k - 30)) 1) ^^^ (jc_turned (sch (k - 29)) (sch (k - 30)) 8)) ^^^ (jc_turned (sch (k - 29)) (sch (k - 30)) 7))]) (rest := []) ⟨hx, hb, hml, hown, hts⟩ (c_X2_addTo l D cI cL H.size h6 160 L2 k (((jc_turned (sch (k - 30)) (sch (k - 29)) 1) ^^^ (jc_turned (sch (k - 30)) (sch (k - 29)) 8)) ^^^ (xj_u (sch (k - 30)) 7)) (((jc_turned (sch (k - 29)) (sch (k - 30)) 1) ^^^ (jc_turned (sch (k - 29)) (sch (k - 30)) 8)) ^^^ (jc_turned (sch (k - 29)) (sch (k - 30)) 7)) (by omega) (by omega)) ⟨va_cnB 4 hts gX0_extend_X2_addTo_n45 rfl rfl rfl (xs_n0_45 hX) in_X2 (by decide +kernel) ⟨Nat.le_of_ble_eq_true rfl, Nat.le_of_ble_eq_true rfl⟩, sm_45, trivial⟩ ⟨xk_blind xk_0_ok, xk_at xk_0_ok trivial hP hD hK hS hA [1] rfl (by decide) rfl⟩ rfl rfl hl.1 rfl (lv_room (Nat.le_of_ble_eq_true rfl)) dX0_extend_118 ⟨Nat.le_of_ble_eq_true rfl, Nat.le_of_ble_eq_true rfl⟩) hP hD hS hA [1] [0] [0, 1] rfl rfl (by decide) (by decide) rfl (by decide) rfl (fun H locs hP hD hS => ?_)
  generalize eL3 : jc_addTo L2 k (((jc_turned (sch (k - 30)) (sch (k - 29)) 1) ^^^ (jc_turned (sch (k - 30)) (sch (k - 29)) 8)) ^^^ (xj_u (sch (k - 30)) 7)) (((jc_turned (sch (k - 29)) (sch (k - 30)) 1) ^^^ (jc_turned (sch (k - 29)) (sch (k - 30)) 8)) ^^^ (jc_turned (sch (k - 29)) (sch (k - 30)) 7)) = L3 at hP hD
  refine lv_aload_n hx hb dX0_extend_121 rfl (lv_at hl 4 rfl) ?_
  refine va_get (D := D) (ci := 0) (v := .ref h6) (C := RX0) (T := TX0) (N := 4) hx hb hts hi_0 hown hK hP 0 rfl rfl 2 (by decide) fl_16 (fun _ h9 => h9) rfl dX0_extend_122 ?_
  refine lv_iload_n hx hb dX0_extend_125 rfl (lv_at hl 5 rfl) ?_
  refine lv_aload_n hx hb dX0_extend_126 rfl (lv_at hl 4 rfl) ?_
  refine va_get (D := D) (ci := 0) (v := .ref h6) (C := RX0) (T := TX0) (N := 4) hx hb hts hi_0 hown hK hP 0 rfl rfl 2 (by decide) fl_16 (fun _ h9 => h9) rfl dX0_extend_127 ?_
  refine lv_iload_n hx hb dX0_extend_130 rfl (lv_at hl 5 rfl) ?_
  refine lv_bipush (v := 14) hx hb dX0_extend_131 (by decide) ?_
  refine xk_isubN hx hb k 14 (k - 14) rfl rfl (by omega) dX0_extend_133 ?_
  refine xk_iald hx hb hK hP 1 0 rfl rfl (k - 14) rfl (by omega) (by decide) dX0_extend_134 ?_
  refine lv_aload_n hx hb dX0_extend_135 rfl (lv_at hl 4 rfl) ?_
  refine va_get (D := D) (ci := 0) (v := .ref h6) (C := RX0) (T := TX0) (N := 4) hx hb hts hi_0 hown hK hP 0 rfl rfl 2 (by decide) fl_16 (fun _ h9 => h9) rfl dX0_extend_136 ?_
  refine lv_iload_n hx hb dX0_extend_139 rfl (lv_at hl 5 rfl) ?_
  refine lv_bipush (v := 13) hx hb dX0_extend_140 (by decide) ?_
  refine xk_isubN hx hb k 13 (k - 13) rfl rfl (by omega) dX0_extend_142 ?_
  refine xk_iald hx hb hK hP 1 0 rfl rfl (k - 13) rfl (by omega) (by decide) dX0_extend_143 ?_
  refine xk_goV (wr := [(h1, .inr (0, [.ref h4, .ref h5, .ref h6, .int fl]))]) (w2 := [(h1, .inr (0, [.ref h4, .ref h5, .ref h6, .int fl])), (h6, .inl (cI, 160, .inl (jc_addTo L3 k (L3 (k - 14)) (L3 (k - 13)))))]) (va_runSN (As := [.ref h6, .int (nI k), .int (L3 (k - 14)), .int (L3 (k - 13))]) (rest := []) ⟨hx, hb, hml, hown, hts⟩ (c_X2_addTo l D cI cL H.size h6 160 L3 k (L3 (k - 14)) (L3 (k - 13)) (by omega) (by omega)) ⟨va_cnB 4 hts gX0_extend_X2_addTo_n45 rfl rfl rfl (xs_n0_45 hX) in_X2 (by decide +kernel) ⟨Nat.le_of_ble_eq_true rfl, Nat.le_of_ble_eq_true rfl⟩, sm_45, trivial⟩ ⟨xk_blind xk_0_ok, xk_at xk_0_ok trivial hP hD hK hS hA [1] rfl (by decide) rfl⟩ rfl rfl hl.1 rfl (lv_room (Nat.le_of_ble_eq_true rfl)) dX0_extend_144 ⟨Nat.le_of_ble_eq_true rfl, Nat.le_of_ble_eq_true rfl⟩) hP hD hS hA [1] [0] [0, 1] rfl rfl (by decide) (by decide) rfl (by decide) rfl (fun H locs hP hD hS => ?_)
  generalize eL4 : jc_addTo L3 k (L3 (k - 14)) (L3 (k - 13)) = L4 at hP hD
  refine lv_aload_n hx hb dX0_extend_147 rfl (lv_at hl 4 rfl) ?_
  refine va_get (D := D) (ci := 0) (v := .ref h6) (C := RX0) (T := TX0) (N := 4) hx hb hts hi_0 hown hK hP 0 rfl rfl 2 (by decide) fl_16 (fun _ h9 => h9) rfl dX0_extend_148 ?_
  refine lv_iload_n hx hb dX0_extend_151 rfl (lv_at hl 5 rfl) ?_
  refine lv_iload hx hb dX0_extend_152 (lv_at hl 1 rfl) ?_
  refine lv_iload hx hb dX0_extend_154 (lv_at hl 0 rfl) ?_
  refine lv_bipush (v := 19) hx hb dX0_extend_156 (by decide) ?_
  refine xk_goPI (r := (jc_turned (sch (k - 4)) (sch (k - 3)) 19)) (va_runSN (As := [.int (sch (k - 4)), .int (sch (k - 3)), .int 19]) (rest := [.int (nI k), .ref h6]) ⟨hx, hb, hml, hown, hts⟩ (c_X2_turned l D (sch (k - 4)) (sch (k - 3)) 19) ⟨va_cnB 3 hts gX0_extend_X2_turned_n51 rfl rfl rfl (xs_n0_51 hX) in_X2 (by decide +kernel) ⟨Nat.le_of_ble_eq_true rfl, Nat.le_of_ble_eq_true rfl⟩, sm_51, trivial⟩ preEq rfl rfl hl.1 rfl (lv_room (Nat.le_of_ble_eq_true rfl)) dX0_extend_158 ⟨Nat.le_of_ble_eq_true rfl, Nat.le_of_ble_eq_true rfl⟩) hP hS (fun H locs hP hS => ?_)
  refine lv_iload hx hb dX0_extend_161 (lv_at hl 1 rfl) ?_
  refine lv_iload hx hb dX0_extend_163 (lv_at hl 0 rfl) ?_
  refine lv_bipush (v := 61) hx hb dX0_extend_165 (by decide) ?_
  refine xk_goPI (r := (jc_turned (sch (k - 4)) (sch (k - 3)) 61)) (va_runSN (As := [.int (sch (k - 4)), .int (sch (k - 3)), .int 61]) (rest := [.int (jc_turned (sch (k - 4)) (sch (k - 3)) 19), .int (nI k), .ref h6]) ⟨hx, hb, hml, hown, hts⟩ (c_X2_turned l D (sch (k - 4)) (sch (k - 3)) 61) ⟨va_cnB 3 hts gX0_extend_X2_turned_n51 rfl rfl rfl (xs_n0_51 hX) in_X2 (by decide +kernel) ⟨Nat.le_of_ble_eq_true rfl, Nat.le_of_ble_eq_true rfl⟩, sm_51, trivial⟩ preEq rfl rfl hl.1 rfl (lv_room (Nat.le_of_ble_eq_true rfl)) dX0_extend_167 ⟨Nat.le_of_ble_eq_true rfl, Nat.le_of_ble_eq_true rfl⟩) hP hS (fun H locs hP hS => ?_)
  refine lv_ixor hx hb dX0_extend_170 ?_
  refine lv_iload hx hb dX0_extend_171 (lv_at hl 1 rfl) ?_
  refine lv_bipush (v := 6) hx hb dX0_extend_173 (by decide) ?_
  refine lv_iushr (v := (xj_u (sch (k - 4)) 6)) hx hb dX0_extend_175 rfl ?_
  refine lv_ixor hx hb dX0_extend_176 ?_
  refine lv_iload hx hb dX0_extend_177 (lv_at hl 0 rfl) ?_
  refine lv_iload hx hb dX0_extend_179 (lv_at hl 1 rfl) ?_
  refine lv_bipush (v := 19) hx hb dX0_extend_181 (by decide) ?_
  refine xk_goPI (r := (jc_turned (sch (k - 3)) (sch (k - 4)) 19)) (va_runSN (As := [.int (sch (k - 3)), .int (sch (k - 4)), .int 19]) (rest := [.int (((jc_turned (sch (k - 4)) (sch (k - 3)) 19) ^^^ (jc_turned (sch (k - 4)) (sch (k - 3)) 61)) ^^^ (xj_u (sch (k - 4)) 6)), .int (nI k), .ref h6]) ⟨hx, hb, hml, hown, hts⟩ (c_X2_turned l D (sch (k - 3)) (sch (k - 4)) 19) ⟨va_cnB 3 hts gX0_extend_X2_turned_n51 rfl rfl rfl (xs_n0_51 hX) in_X2 (by decide +kernel) ⟨Nat.le_of_ble_eq_true rfl, Nat.le_of_ble_eq_true rfl⟩, sm_51, trivial⟩ preEq rfl rfl hl.1 rfl (lv_room (Nat.le_of_ble_eq_true rfl)) dX0_extend_183 ⟨Nat.le_of_ble_eq_true rfl, Nat.le_of_ble_eq_true rfl⟩) hP hS (fun H locs hP hS => ?_)
  refine lv_iload hx hb dX0_extend_186 (lv_at hl 0 rfl) ?_
  refine lv_iload hx hb dX0_extend_188 (lv_at hl 1 rfl) ?_
  refine lv_bipush (v := 61) hx hb dX0_extend_190 (by decide) ?_
  refine xk_goPI (r := (jc_turned (sch (k - 3)) (sch (k - 4)) 61)) (va_runSN (As := [.int (sch (k - 3)), .int (sch (k - 4)), .int 61]) (rest := [.int (jc_turned (sch (k - 3)) (sch (k - 4)) 19), .int (((jc_turned (sch (k - 4)) (sch (k - 3)) 19) ^^^ (jc_turned (sch (k - 4)) (sch (k - 3)) 61)) ^^^ (xj_u (sch (k - 4)) 6)), .int (nI k), .ref h6]) ⟨hx, hb, hml, hown, hts⟩ (c_X2_turned l D (sch (k - 3)) (sch (k - 4)) 61) ⟨va_cnB 3 hts gX0_extend_X2_turned_n51 rfl rfl rfl (xs_n0_51 hX) in_X2 (by decide +kernel) ⟨Nat.le_of_ble_eq_true rfl, Nat.le_of_ble_eq_true rfl⟩, sm_51, trivial⟩ preEq rfl rfl hl.1 rfl (lv_room (Nat.le_of_ble_eq_true rfl)) dX0_extend_192 ⟨Nat.le_of_ble_eq_true rfl, Nat.le_of_ble_eq_true rfl⟩) hP hS (fun H locs hP hS => ?_)
  refine lv_ixor hx hb dX0_extend_195 ?_
  refine lv_iload hx hb dX0_extend_196 (lv_at hl 0 rfl) ?_
  refine lv_iload hx hb dX0_extend_198 (lv_at hl 1 rfl) ?_
  refine lv_bipush (v := 6) hx hb dX0_extend_200 (by decide) ?_
  refine xk_goPI (r := (jc_turned (sch (k - 3)) (sch (k - 4)) 6)) (va_runSN (As := [.int (sch (k - 3)), .int (sch (k - 4)), .int 6]) (rest := [.int ((jc_turned (sch (k - 3)) (sch (k - 4)) 19) ^^^ (jc_turned (sch (k - 3)) (sch (k - 4)) 61)), .int (((jc_turned (sch (k - 4)) (sch (k - 3)) 19) ^^^ (jc_turned (sch (k - 4)) (sch (k - 3)) 61)) ^^^ (xj_u (sch (k - 4)) 6)), .int (nI k), .ref h6]) ⟨hx, hb, hml, hown, hts⟩ (c_X2_turned l D (sch (k - 3)) (sch (k - 4)) 6) ⟨va_cnB 3 hts gX0_extend_X2_turned_n51 rfl rfl rfl (xs_n0_51 hX) in_X2 (by decide +kernel) ⟨Nat.le_of_ble_eq_true rfl, Nat.le_of_ble_eq_true rfl⟩, sm_51, trivial⟩ preEq rfl rfl hl.1 rfl (lv_room (Nat.le_of_ble_eq_true rfl)) dX0_extend_202 ⟨Nat.le_of_ble_eq_true rfl, Nat.le_of_ble_eq_true rfl⟩) hP hS (fun H locs hP hS => ?_)
  refine lv_ixor hx hb dX0_extend_205 ?_
  refine xk_goV (wr := [(h1, .inr (0, [.ref h4, .ref h5, .ref h6, .int fl]))]) (w2 := [(h1, .inr (0, [.ref h4, .ref h5, .ref h6, .int fl])), (h6, .inl (cI, 160, .inl (jc_addTo L4 k (((jc_turned (sch (k - 4)) (sch (k - 3)) 19) ^^^ (jc_turned (sch (k - 4)) (sch (k - 3)) 61)) ^^^ (xj_u (sch (k - 4)) 6)) (((jc_turned (sch (k - 3)) (sch (k - 4)) 19) ^^^ (jc_turned (sch (k - 3)) (sch (k - 4)) 61)) ^^^ (jc_turned (sch (k - 3)) (sch (k - 4)) 6)))))]) (va_runSN (As := [.ref h6, .int (nI k), .int (((jc_turned (sch (k - 4)) (sch (k - 3)) 19) ^^^ (jc_turned (sch (k - 4)) (sch (k - 3)) 61)) ^^^ (xj_u (sch (k - 4)) 6)), .int (((jc_turned (sch (k - 3)) (sch (k - 4)) 19) ^^^ (jc_turned (sch (k - 3)) (sch (k - 4)) 61)) ^^^ (jc_turned (sch (k - 3)) (sch (k - 4)) 6))]) (rest := []) ⟨hx, hb, hml, hown, hts⟩ (c_X2_addTo l D cI cL H.size h6 160 L4 k (((jc_turned (sch (k - 4)) (sch (k - 3)) 19) ^^^ (jc_turned (sch (k - 4)) (sch (k - 3)) 61)) ^^^ (xj_u (sch (k - 4)) 6)) (((jc_turned (sch (k - 3)) (sch (k - 4)) 19) ^^^ (jc_turned (sch (k - 3)) (sch (k - 4)) 61)) ^^^ (jc_turned (sch (k - 3)) (sch (k - 4)) 6)) (by omega) (by omega)) ⟨va_cnB 4 hts gX0_extend_X2_addTo_n45 rfl rfl rfl (xs_n0_45 hX) in_X2 (by decide +kernel) ⟨Nat.le_of_ble_eq_true rfl, Nat.le_of_ble_eq_true rfl⟩, sm_45, trivial⟩ ⟨xk_blind xk_0_ok, xk_at xk_0_ok trivial hP hD hK hS hA [1] rfl (by decide) rfl⟩ rfl rfl hl.1 rfl (lv_room (Nat.le_of_ble_eq_true rfl)) dX0_extend_206 ⟨Nat.le_of_ble_eq_true rfl, Nat.le_of_ble_eq_true rfl⟩) hP hD hS hA [1] [0] [0, 1] rfl rfl (by decide) (by decide) rfl (by decide) rfl (fun H locs hP hD hS => ?_)
  generalize eL5 : jc_addTo L4 k (((jc_turned (sch (k - 4)) (sch (k - 3)) 19) ^^^ (jc_turned (sch (k - 4)) (sch (k - 3)) 61)) ^^^ (xj_u (sch (k - 4)) 6)) (((jc_turned (sch (k - 3)) (sch (k - 4)) 19) ^^^ (jc_turned (sch (k - 3)) (sch (k - 4)) 61)) ^^^ (jc_turned (sch (k - 3)) (sch (k - 4)) 6)) = L5 at hP hD
  subst eL1
  subst eL2
  subst eL3
  subst eL4
  subst eL5
  exact ret _ _ _ _ hP hD hS dX0_extend_209
