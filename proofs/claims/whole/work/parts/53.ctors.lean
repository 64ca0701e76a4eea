abbrev rm_X0_init : Room := { frames := 1, cells := 3, slots := 192, locals := 20 }
set_option maxHeartbeats 4000000 in
set_option maxRecDepth 100000 in
theorem c_X0_init (l : Launch) (D : va_G) (cI cL : ClassId) (sz : Nat) (h1 : Nat) : xk_C l yX0_init wsX0_init rm_X0_init xk_0 D classes [(cI, .int), (cL, .long)] [.ref h1] [(h1, .inr (0, [.null, .null, .null, .int 0]))] (Nat × Nat × Nat) (fun u => [(h1, .inr (0, [.ref u.1, .ref u.2.1, .ref u.2.2, .int 0])), (u.1, .inl (cI, 16, .inl (fun _ => 0))), (u.2.1, .inl (cI, 16, .inl (fun _ => 0))), (u.2.2, .inl (cI, 160, .inl (fun _ => 0)))]) sz 3 192 := by
  refine xk_entC (cc := cX0_init) (maxL := 1) (by decide) rfl rfl (Nat.le_of_ble_eq_true rfl) ?_
  intro p e s m args below meth co Q A ls hx hb hml hts hown hin hA hK hP hD hS hX ret hl
  have hl : lv_has ls 1 [(0, .ref h1)] := hl
  have hi_0 : ∀ w ∈ u_ws RX0 TX0 4, w ∈ wsX0_init := by decide +kernel
  have ml_1 := hts (.methodLink RX0 1 objectInit) (by decide +kernel)
  have im_obj := hts (.instanceMethod objectInit) (by decide +kernel)
  have co_obj := hts (.code objectInit ⟨#[0xb1]⟩ 1 none) (List.mem_of_getElem? (i := 3) rfl)
  have ar_I := hts (.arrayClass .int) (by decide +kernel)
  have fl_9 := hts (.fieldLink RX0 9 "WideHash$Sha" "total" "[I") (by decide +kernel)
  have fl_13 := hts (.fieldLink RX0 13 "WideHash$Sha" "letters" "[I") (by decide +kernel)
  have fl_16 := hts (.fieldLink RX0 16 "WideHash$Sha" "schedule" "[I") (by decide +kernel)
  have fl_19 := hts (.fieldLink RX0 19 "WideHash$Sha" "filled" "I") (by decide +kernel)
  refine lv_aload_n hx hb dX0_init_0 rfl (lv_at hl 0 rfl) ?_
  refine W.objInit hx hb hown ml_1 im_obj co_obj rfl (by rw [hml]; exact hl.1) rfl dX0_init_1 (Nat.le_of_ble_eq_true rfl) (Nat.le_of_ble_eq_true rfl) ?_
  refine W.eq (g2 := F0 m 4 ls []) rfl ?_
  refine lv_aload_n hx hb dX0_init_4 rfl (lv_at hl 0 rfl) ?_
  refine lv_bipush (v := 16) hx hb dX0_init_5 (by decide) ?_
  refine xk_newI hx hb ar_I hK hP hD hS hA 0 rfl 16 rfl (by decide) (Nat.le_of_ble_eq_true rfl) (Nat.le_of_ble_eq_true rfl) dX0_init_7 (fun h4 H hP hD hS => ?_)
  have hP : va_P D classes [(h1, .inr (0, [.null, .null, .null, .int 0])), (h4, .inl (cI, 16, .inl (fun _ => 0)))] H := hP
  have hD : va_D A [(h1, .inr (0, [.null, .null, .null, .int 0])), (h4, .inl (cI, 16, .inl (fun _ => 0)))] := hD
  refine W.widen (k := 1) (n := 16) (by omega) (by omega) ?_
  refine va_putF (D := D) (ci := 0) (v := .ref h4) (ty := .array .int) (C := RX0) (T := TX0) (N := 4) hx hb hts hi_0 tyX0 tyX0_ok nmX0 hown hK hP hD hS 0 rfl rfl 0 (by decide) fl_9 (fun _ h9 => h9) rfl hin rfl (by decide +kernel) rfl rfl (Nat.le_of_ble_eq_true rfl) dX0_init_9 (fun H locs hP hD hS => ?_)
  have hP : va_P D classes [(h1, .inr (0, [.ref h4, .null, .null, .int 0])), (h4, .inl (cI, 16, .inl (fun _ => 0)))] H := hP
  have hD : va_D A [(h1, .inr (0, [.ref h4, .null, .null, .int 0])), (h4, .inl (cI, 16, .inl (fun _ => 0)))] := hD
  refine lv_aload_n hx hb dX0_init_12 rfl (lv_at hl 0 rfl) ?_
  refine lv_bipush (v := 16) hx hb dX0_init_13 (by decide) ?_
  refine xk_newI hx hb ar_I hK hP hD hS hA 0 rfl 16 rfl (by decide) (Nat.le_of_ble_eq_true rfl) (Nat.le_of_ble_eq_true rfl) dX0_init_15 (fun h5 H hP hD hS => ?_)
  have hP : va_P D classes [(h1, .inr (0, [.ref h4, .null, .null, .int 0])), (h4, .inl (cI, 16, .inl (fun _ => 0))), (h5, .inl (cI, 16, .inl (fun _ => 0)))] H := hP
  have hD : va_D A [(h1, .inr (0, [.ref h4, .null, .null, .int 0])), (h4, .inl (cI, 16, .inl (fun _ => 0))), (h5, .inl (cI, 16, .inl (fun _ => 0)))] := hD
  refine W.widen (k := 2) (n := 32) (by omega) (by omega) ?_
  refine va_putF (D := D) (ci := 0) (v := .ref h5) (ty := .array .int) (C := RX0) (T := TX0) (N := 4) hx hb hts hi_0 tyX0 tyX0_ok nmX0 hown hK hP hD hS 0 rfl rfl 1 (by decide) fl_13 (fun _ h9 => h9) rfl hin rfl (by decide +kernel) rfl rfl (Nat.le_of_ble_eq_true rfl) dX0_init_17 (fun H locs hP hD hS => ?_)
  have hP : va_P D classes [(h1, .inr (0, [.ref h4, .ref h5, .null, .int 0])), (h4, .inl (cI, 16, .inl (fun _ => 0))), (h5, .inl (cI, 16, .inl (fun _ => 0)))] H := hP
  have hD : va_D A [(h1, .inr (0, [.ref h4, .ref h5, .null, .int 0])), (h4, .inl (cI, 16, .inl (fun _ => 0))), (h5, .inl (cI, 16, .inl (fun _ => 0)))] := hD
  refine lv_aload_n hx hb dX0_init_20 rfl (lv_at hl 0 rfl) ?_
  refine lv_sipush (v := 160) hx hb dX0_init_21 (by decide) ?_
  refine xk_newI hx hb ar_I hK hP hD hS hA 0 rfl 160 rfl (by decide) (Nat.le_of_ble_eq_true rfl) (Nat.le_of_ble_eq_true rfl) dX0_init_24 (fun h6 H hP hD hS => ?_)
  have hP : va_P D classes [(h1, .inr (0, [.ref h4, .ref h5, .null, .int 0])), (h4, .inl (cI, 16, .inl (fun _ => 0))), (h5, .inl (cI, 16, .inl (fun _ => 0))), (h6, .inl (cI, 160, .inl (fun _ => 0)))] H := hP
  have hD : va_D A [(h1, .inr (0, [.ref h4, .ref h5, .null, .int 0])), (h4, .inl (cI, 16, .inl (fun _ => 0))), (h5, .inl (cI, 16, .inl (fun _ => 0))), (h6, .inl (cI, 160, .inl (fun _ => 0)))] := hD
  refine W.widen (k := 3) (n := 192) (by omega) (by omega) ?_
  refine va_putF (D := D) (ci := 0) (v := .ref h6) (ty := .array .int) (C := RX0) (T := TX0) (N := 4) hx hb hts hi_0 tyX0 tyX0_ok nmX0 hown hK hP hD hS 0 rfl rfl 2 (by decide) fl_16 (fun _ h9 => h9) rfl hin rfl (by decide +kernel) rfl rfl (Nat.le_of_ble_eq_true rfl) dX0_init_26 (fun H locs hP hD hS => ?_)
  have hP : va_P D classes [(h1, .inr (0, [.ref h4, .ref h5, .ref h6, .int 0])), (h4, .inl (cI, 16, .inl (fun _ => 0))), (h5, .inl (cI, 16, .inl (fun _ => 0))), (h6, .inl (cI, 160, .inl (fun _ => 0)))] H := hP
  have hD : va_D A [(h1, .inr (0, [.ref h4, .ref h5, .ref h6, .int 0])), (h4, .inl (cI, 16, .inl (fun _ => 0))), (h5, .inl (cI, 16, .inl (fun _ => 0))), (h6, .inl (cI, 160, .inl (fun _ => 0)))] := hD
  refine lv_aload_n hx hb dX0_init_29 rfl (lv_at hl 0 rfl) ?_
  refine lv_iconst (v := 0) hx hb dX0_init_30 (by decide) ?_
  refine va_put (D := D) (ci := 0) (v := .int 0) (ty := .int) (C := RX0) (T := TX0) (N := 4) hx hb hts hi_0 tyX0 tyX0_ok nmX0 hown hK hP hD hS 0 rfl rfl 3 (by decide) fl_19 (fun _ h9 => h9) rfl (by decide +kernel) rfl rfl (Nat.le_of_ble_eq_true rfl) dX0_init_31 (fun H locs hP hD hS => ?_)
  have hP : va_P D classes [(h1, .inr (0, [.ref h4, .ref h5, .ref h6, .int 0])), (h4, .inl (cI, 16, .inl (fun _ => 0))), (h5, .inl (cI, 16, .inl (fun _ => 0))), (h6, .inl (cI, 160, .inl (fun _ => 0)))] H := hP
  have hD : va_D A [(h1, .inr (0, [.ref h4, .ref h5, .ref h6, .int 0])), (h4, .inl (cI, 16, .inl (fun _ => 0))), (h5, .inl (cI, 16, .inl (fun _ => 0))), (h6, .inl (cI, 160, .inl (fun _ => 0)))] := hD
  exact ret (h4, h5, h6) _ _ _ _ hP hD hS dX0_init_34
abbrev rm_X1_init : Room := { frames := 1, cells := 1, slots := 8, locals := 20 }
set_option maxHeartbeats 4000000 in
set_option maxRecDepth 100000 in
theorem c_X1_init (l : Launch) (D : va_G) (cI cL : ClassId) (sz : Nat) (h2 : Nat) : xk_C l yX1_init wsX1_init rm_X1_init xk_0 D classes [(cI, .int), (cL, .long)] [.ref h2] [(h2, .inr (1, [.null, .int 0, .int 0, .int 0]))] (Nat) (fun u => [(h2, .inr (1, [.ref u, .int 0, .int 0, .int 0])), (u, .inl (cI, 8, .inl (fun _ => 0)))]) sz 1 8 := by
  refine xk_entC (cc := cX1_init) (maxL := 1) (by decide) rfl rfl (Nat.le_of_ble_eq_true rfl) ?_
  intro p e s m args below meth co Q A ls hx hb hml hts hown hin hA hK hP hD hS hX ret hl
  have hl : lv_has ls 1 [(0, .ref h2)] := hl
  have hi_1 : ∀ w ∈ u_ws RX1 TX1 4, w ∈ wsX1_init := by decide +kernel
  have ml_1 := hts (.methodLink RX1 1 objectInit) (by decide +kernel)
  have im_obj := hts (.instanceMethod objectInit) (by decide +kernel)
  have co_obj := hts (.code objectInit ⟨#[0xb1]⟩ 1 none) (List.mem_of_getElem? (i := 3) rfl)
  have ar_I := hts (.arrayClass .int) (by decide +kernel)
  have fl_7 := hts (.fieldLink RX1 7 "WideHash$Sip" "v" "[I") (by decide +kernel)
  have fl_13 := hts (.fieldLink RX1 13 "WideHash$Sip" "groupHigh" "I") (by decide +kernel)
  have fl_17 := hts (.fieldLink RX1 17 "WideHash$Sip" "groupLow" "I") (by decide +kernel)
  have fl_20 := hts (.fieldLink RX1 20 "WideHash$Sip" "filled" "I") (by decide +kernel)
  refine lv_aload_n hx hb dX1_init_0 rfl (lv_at hl 0 rfl) ?_
  refine W.objInit hx hb hown ml_1 im_obj co_obj rfl (by rw [hml]; exact hl.1) rfl dX1_init_1 (Nat.le_of_ble_eq_true rfl) (Nat.le_of_ble_eq_true rfl) ?_
  refine W.eq (g2 := F0 m 4 ls []) rfl ?_
  refine lv_aload_n hx hb dX1_init_4 rfl (lv_at hl 0 rfl) ?_
  refine lv_bipush (v := 8) hx hb dX1_init_5 (by decide) ?_
  refine xk_newI hx hb ar_I hK hP hD hS hA 0 rfl 8 rfl (by decide) (Nat.le_of_ble_eq_true rfl) (Nat.le_of_ble_eq_true rfl) dX1_init_7 (fun h7 H hP hD hS => ?_)
  have hP : va_P D classes [(h2, .inr (1, [.null, .int 0, .int 0, .int 0])), (h7, .inl (cI, 8, .inl (fun _ => 0)))] H := hP
  have hD : va_D A [(h2, .inr (1, [.null, .int 0, .int 0, .int 0])), (h7, .inl (cI, 8, .inl (fun _ => 0)))] := hD
  refine W.widen (k := 1) (n := 8) (by omega) (by omega) ?_
  refine va_putF (D := D) (ci := 1) (v := .ref h7) (ty := .array .int) (C := RX1) (T := TX1) (N := 4) hx hb hts hi_1 tyX1 tyX1_ok nmX1 hown hK hP hD hS 0 rfl rfl 0 (by decide) fl_7 (fun _ h9 => h9) rfl hin rfl (by decide +kernel) rfl rfl (Nat.le_of_ble_eq_true rfl) dX1_init_9 (fun H locs hP hD hS => ?_)
  have hP : va_P D classes [(h2, .inr (1, [.ref h7, .int 0, .int 0, .int 0])), (h7, .inl (cI, 8, .inl (fun _ => 0)))] H := hP
  have hD : va_D A [(h2, .inr (1, [.ref h7, .int 0, .int 0, .int 0])), (h7, .inl (cI, 8, .inl (fun _ => 0)))] := hD
  refine lv_aload_n hx hb dX1_init_12 rfl (lv_at hl 0 rfl) ?_
  refine lv_iconst (v := 0) hx hb dX1_init_13 (by decide) ?_
  refine va_put (D := D) (ci := 1) (v := .int 0) (ty := .int) (C := RX1) (T := TX1) (N := 4) hx hb hts hi_1 tyX1 tyX1_ok nmX1 hown hK hP hD hS 0 rfl rfl 1 (by decide) fl_13 (fun _ h9 => h9) rfl (by decide +kernel) rfl rfl (Nat.le_of_ble_eq_true rfl) dX1_init_14 (fun H locs hP hD hS => ?_)
  have hP : va_P D classes [(h2, .inr (1, [.ref h7, .int 0, .int 0, .int 0])), (h7, .inl (cI, 8, .inl (fun _ => 0)))] H := hP
  have hD : va_D A [(h2, .inr (1, [.ref h7, .int 0, .int 0, .int 0])), (h7, .inl (cI, 8, .inl (fun _ => 0)))] := hD
  refine lv_aload_n hx hb dX1_init_17 rfl (lv_at hl 0 rfl) ?_
  refine lv_iconst (v := 0) hx hb dX1_init_18 (by decide) ?_
  refine va_put (D := D) (ci := 1) (v := .int 0) (ty := .int) (C := RX1) (T := TX1) (N := 4) hx hb hts hi_1 tyX1 tyX1_ok nmX1 hown hK hP hD hS 0 rfl rfl 2 (by decide) fl_17 (fun _ h9 => h9) rfl (by decide +kernel) rfl rfl (Nat.le_of_ble_eq_true rfl) dX1_init_19 (fun H locs hP hD hS => ?_)
  have hP : va_P D classes [(h2, .inr (1, [.ref h7, .int 0, .int 0, .int 0])), (h7, .inl (cI, 8, .inl (fun _ => 0)))] H := hP
  have hD : va_D A [(h2, .inr (1, [.ref h7, .int 0, .int 0, .int 0])), (h7, .inl (cI, 8, .inl (fun _ => 0)))] := hD
  refine lv_aload_n hx hb dX1_init_22 rfl (lv_at hl 0 rfl) ?_
  refine lv_iconst (v := 0) hx hb dX1_init_23 (by decide) ?_
  refine va_put (D := D) (ci := 1) (v := .int 0) (ty := .int) (C := RX1) (T := TX1) (N := 4) hx hb hts hi_1 tyX1 tyX1_ok nmX1 hown hK hP hD hS 0 rfl rfl 3 (by decide) fl_20 (fun _ h9 => h9) rfl (by decide +kernel) rfl rfl (Nat.le_of_ble_eq_true rfl) dX1_init_24 (fun H locs hP hD hS => ?_)
  have hP : va_P D classes [(h2, .inr (1, [.ref h7, .int 0, .int 0, .int 0])), (h7, .inl (cI, 8, .inl (fun _ => 0)))] H := hP
  have hD : va_D A [(h2, .inr (1, [.ref h7, .int 0, .int 0, .int 0])), (h7, .inl (cI, 8, .inl (fun _ => 0)))] := hD
  exact ret (h7) _ _ _ _ hP hD hS dX1_init_27
abbrev rm_X2_init : Room := { frames := 2, cells := 7, slots := 212, locals := 40 }
set_option maxHeartbeats 4000000 in
set_option maxRecDepth 100000 in
theorem c_X2_init (l : Launch) (D : va_G) (cI cL : ClassId) (sz : Nat) (h0 : Nat) : xk_C l yX2_init wsX2_init rm_X2_init xs_X D classes [(cI, .int), (cL, .long)] [.ref h0] [(h0, .inr (2, [.null, .null, .null, .int 0, .int 0, .int 0, .int 0]))] (Nat × Nat × Nat × Nat × Nat × Nat × Nat) (fun u => [(h0, .inr (2, [.ref u.1, .ref u.2.1, .ref u.2.2.1, .int 0, .int 0, .int 0, .int 0])), (u.1, .inr (0, [.ref u.2.2.2.1, .ref u.2.2.2.2.1, .ref u.2.2.2.2.2.1, .int 0])), (u.2.2.2.1, .inl (cI, 16, .inl (fun _ => 0))), (u.2.2.2.2.1, .inl (cI, 16, .inl (fun _ => 0))), (u.2.2.2.2.2.1, .inl (cI, 160, .inl (fun _ => 0))), (u.2.1, .inr (1, [.ref u.2.2.2.2.2.2, .int 0, .int 0, .int 0])), (u.2.2.2.2.2.2, .inl (cI, 8, .inl (fun _ => 0))), (u.2.2.1, .inl (cI, 4, .inl (fun _ => 0)))]) sz 7 212 := by
  refine xk_entC (cc := cX2_init) (maxL := 1) (by decide) rfl rfl (Nat.le_of_ble_eq_true rfl) ?_
  intro p e s m args below meth co Q A ls hx hb hml hts hown hin hA hK hP hD hS hX ret hl
  have hl : lv_has ls 1 [(0, .ref h0)] := hl
  have hi_2 : ∀ w ∈ u_ws RX2 TX2 7, w ∈ wsX2_init := by decide +kernel
  have ml_1 := hts (.methodLink RX2 1 objectInit) (by decide +kernel)
  have im_obj := hts (.instanceMethod objectInit) (by decide +kernel)
  have co_obj := hts (.code objectInit ⟨#[0xb1]⟩ 1 none) (List.mem_of_getElem? (i := 3) rfl)
  have nw_0 : ∀ w ∈ u_ws RX0 TX0 4, w ∈ wsX2_init := by decide +kernel
  have cl_7 := hts (.classLink RX2 7 RX0) (by decide +kernel)
  have it_0 := hts (.instantiable RX0 4) (by decide +kernel)
  have in_X0 := hts (.initialized RX0) (by decide +kernel)
  have sm_9 := hts (.instanceMethod yX0_init) (by decide +kernel)
  have fl_10 := hts (.fieldLink RX2 10 "WideHash" "sha" "LWideHash$Sha;") (by decide +kernel)
  have nw_1 : ∀ w ∈ u_ws RX1 TX1 4, w ∈ wsX2_init := by decide +kernel
  have cl_16 := hts (.classLink RX2 16 RX1) (by decide +kernel)
  have it_1 := hts (.instantiable RX1 4) (by decide +kernel)
  have in_X1 := hts (.initialized RX1) (by decide +kernel)
  have sm_18 := hts (.instanceMethod yX1_init) (by decide +kernel)
  have fl_19 := hts (.fieldLink RX2 19 "WideHash" "sip" "LWideHash$Sip;") (by decide +kernel)
  have ar_I := hts (.arrayClass .int) (by decide +kernel)
  have fl_23 := hts (.fieldLink RX2 23 "WideHash" "key" "[I") (by decide +kernel)
  have fl_27 := hts (.fieldLink RX2 27 "WideHash" "ready" "Z") (by decide +kernel)
  have fl_31 := hts (.fieldLink RX2 31 "WideHash" "open" "Z") (by decide +kernel)
  have fl_34 := hts (.fieldLink RX2 34 "WideHash" "kind" "I") (by decide +kernel)
  have fl_38 := hts (.fieldLink RX2 38 "WideHash" "count" "I") (by decide +kernel)
  refine lv_aload_n hx hb dX2_init_0 rfl (lv_at hl 0 rfl) ?_
  refine W.objInit hx hb hown ml_1 im_obj co_obj rfl (by rw [hml]; exact hl.1) rfl dX2_init_1 (Nat.le_of_ble_eq_true rfl) (Nat.le_of_ble_eq_true rfl) ?_
  refine W.eq (g2 := F0 m 4 ls []) rfl ?_
  refine lv_aload_n hx hb dX2_init_4 rfl (lv_at hl 0 rfl) ?_
  refine va_new (ci := 0) (fs := [.null, .null, .null, .int 0]) (C := RX0) (T := TX0) (N := 4) hx hb hts nw_0 tyX0 tyX0_ok hown cl_7 it_0 in_X0 hK hP hD hS hA rfl (fun j hj => by rcases (show j = 0 ∨ j = 1 ∨ j = 2 ∨ j = 3 by omega) with rfl | rfl | rfl | rfl <;> rfl) (Nat.le_of_ble_eq_true rfl) (Nat.le_of_ble_eq_true rfl) dX2_init_5 (fun h1 H hP hD hS => ?_)
  have hP : va_P D classes [(h0, .inr (2, [.null, .null, .null, .int 0, .int 0, .int 0, .int 0])), (h1, .inr (0, [.null, .null, .null, .int 0]))] H := hP
  have hD : va_D A [(h0, .inr (2, [.null, .null, .null, .int 0, .int 0, .int 0, .int 0])), (h1, .inr (0, [.null, .null, .null, .int 0]))] := hD
  refine W.widen (k := 1) (n := 4) (by omega) (by omega) ?_
  refine lv_dup hx hb dX2_init_8 rfl ?_
  refine xk_goC (wr := [(h0, .inr (2, [.null, .null, .null, .int 0, .int 0, .int 0, .int 0]))]) (va_runIN (As := []) (rest := [.ref h1, .ref h0]) ⟨hx, hb, hml, hown, hts⟩ (c_X0_init l D cI cL H.size h1) ⟨va_cnB 0 hts gX2_init_X0_init_n9 rfl rfl rfl (xs_n2_9 hX) in_X0 (by decide +kernel) ⟨Nat.le_of_ble_eq_true rfl, Nat.le_of_ble_eq_true rfl⟩, rfl, sm_9⟩ ⟨xk_blind xk_0_ok, xk_at xk_0_ok trivial hP hD hK hS hA [1] rfl (by decide) rfl⟩ rfl rfl hl.1 rfl (lv_room (Nat.le_of_ble_eq_true rfl)) dX2_init_9 ⟨Nat.le_of_ble_eq_true rfl, Nat.le_of_ble_eq_true rfl⟩) hP hD hS hA [1] [0] rfl rfl (by decide) (by decide) (fun u H locs hP hD hS => ?_)
  obtain ⟨h4, h5, h6⟩ := u
  have hP : va_P D classes [(h0, .inr (2, [.null, .null, .null, .int 0, .int 0, .int 0, .int 0])), (h1, .inr (0, [.ref h4, .ref h5, .ref h6, .int 0])), (h4, .inl (cI, 16, .inl (fun _ => 0))), (h5, .inl (cI, 16, .inl (fun _ => 0))), (h6, .inl (cI, 160, .inl (fun _ => 0)))] H := hP
  have hD : va_D A [(h0, .inr (2, [.null, .null, .null, .int 0, .int 0, .int 0, .int 0])), (h1, .inr (0, [.ref h4, .ref h5, .ref h6, .int 0])), (h4, .inl (cI, 16, .inl (fun _ => 0))), (h5, .inl (cI, 16, .inl (fun _ => 0))), (h6, .inl (cI, 160, .inl (fun _ => 0)))] := hD
  refine W.widen (k := 4) (n := 196) (by omega) (by omega) ?_
  refine va_putF (D := D) (ci := 2) (v := .ref h1) (ty := .object "WideHash$Sha") (C := RX2) (T := TX2) (N := 7) hx hb hts hi_2 tyX2 tyX2_ok nmX2 hown hK hP hD hS 0 rfl rfl 0 (by decide) fl_10 (fun _ h9 => h9) rfl hin rfl (by decide +kernel) rfl rfl (Nat.le_of_ble_eq_true rfl) dX2_init_12 (fun H locs hP hD hS => ?_)
  have hP : va_P D classes [(h0, .inr (2, [.ref h1, .null, .null, .int 0, .int 0, .int 0, .int 0])), (h1, .inr (0, [.ref h4, .ref h5, .ref h6, .int 0])), (h4, .inl (cI, 16, .inl (fun _ => 0))), (h5, .inl (cI, 16, .inl (fun _ => 0))), (h6, .inl (cI, 160, .inl (fun _ => 0)))] H := hP
  have hD : va_D A [(h0, .inr (2, [.ref h1, .null, .null, .int 0, .int 0, .int 0, .int 0])), (h1, .inr (0, [.ref h4, .ref h5, .ref h6, .int 0])), (h4, .inl (cI, 16, .inl (fun _ => 0))), (h5, .inl (cI, 16, .inl (fun _ => 0))), (h6, .inl (cI, 160, .inl (fun _ => 0)))] := hD
  refine lv_aload_n hx hb dX2_init_15 rfl (lv_at hl 0 rfl) ?_
  refine va_new (ci := 1) (fs := [.null, .int 0, .int 0, .int 0]) (C := RX1) (T := TX1) (N := 4) hx hb hts nw_1 tyX1 tyX1_ok hown cl_16 it_1 in_X1 hK hP hD hS hA rfl (fun j hj => by rcases (show j = 0 ∨ j = 1 ∨ j = 2 ∨ j = 3 by omega) with rfl | rfl | rfl | rfl <;> rfl) (Nat.le_of_ble_eq_true rfl) (Nat.le_of_ble_eq_true rfl) dX2_init_16 (fun h2 H hP hD hS => ?_)
  have hP : va_P D classes [(h0, .inr (2, [.ref h1, .null, .null, .int 0, .int 0, .int 0, .int 0])), (h1, .inr (0, [.ref h4, .ref h5, .ref h6, .int 0])), (h4, .inl (cI, 16, .inl (fun _ => 0))), (h5, .inl (cI, 16, .inl (fun _ => 0))), (h6, .inl (cI, 160, .inl (fun _ => 0))), (h2, .inr (1, [.null, .int 0, .int 0, .int 0]))] H := hP
  have hD : va_D A [(h0, .inr (2, [.ref h1, .null, .null, .int 0, .int 0, .int 0, .int 0])), (h1, .inr (0, [.ref h4, .ref h5, .ref h6, .int 0])), (h4, .inl (cI, 16, .inl (fun _ => 0))), (h5, .inl (cI, 16, .inl (fun _ => 0))), (h6, .inl (cI, 160, .inl (fun _ => 0))), (h2, .inr (1, [.null, .int 0, .int 0, .int 0]))] := hD
  refine W.widen (k := 5) (n := 200) (by omega) (by omega) ?_
  refine lv_dup hx hb dX2_init_19 rfl ?_
  refine xk_goC (wr := [(h0, .inr (2, [.ref h1, .null, .null, .int 0, .int 0, .int 0, .int 0])), (h1, .inr (0, [.ref h4, .ref h5, .ref h6, .int 0])), (h4, .inl (cI, 16, .inl (fun _ => 0))), (h5, .inl (cI, 16, .inl (fun _ => 0))), (h6, .inl (cI, 160, .inl (fun _ => 0)))]) (va_runIN (As := []) (rest := [.ref h2, .ref h0]) ⟨hx, hb, hml, hown, hts⟩ (c_X1_init l D cI cL H.size h2) ⟨va_cnB 0 hts gX2_init_X1_init_n18 rfl rfl rfl (xs_n2_18 hX) in_X1 (by decide +kernel) ⟨Nat.le_of_ble_eq_true rfl, Nat.le_of_ble_eq_true rfl⟩, rfl, sm_18⟩ ⟨xk_blind xk_0_ok, xk_at xk_0_ok trivial hP hD hK hS hA [5] rfl (by decide) rfl⟩ rfl rfl hl.1 rfl (lv_room (Nat.le_of_ble_eq_true rfl)) dX2_init_20 ⟨Nat.le_of_ble_eq_true rfl, Nat.le_of_ble_eq_true rfl⟩) hP hD hS hA [5] [0, 1, 2, 3, 4] rfl rfl (by decide) (by decide) (fun h7 H locs hP hD hS => ?_)
  have hP : va_P D classes [(h0, .inr (2, [.ref h1, .null, .null, .int 0, .int 0, .int 0, .int 0])), (h1, .inr (0, [.ref h4, .ref h5, .ref h6, .int 0])), (h4, .inl (cI, 16, .inl (fun _ => 0))), (h5, .inl (cI, 16, .inl (fun _ => 0))), (h6, .inl (cI, 160, .inl (fun _ => 0))), (h2, .inr (1, [.ref h7, .int 0, .int 0, .int 0])), (h7, .inl (cI, 8, .inl (fun _ => 0)))] H := hP
  have hD : va_D A [(h0, .inr (2, [.ref h1, .null, .null, .int 0, .int 0, .int 0, .int 0])), (h1, .inr (0, [.ref h4, .ref h5, .ref h6, .int 0])), (h4, .inl (cI, 16, .inl (fun _ => 0))), (h5, .inl (cI, 16, .inl (fun _ => 0))), (h6, .inl (cI, 160, .inl (fun _ => 0))), (h2, .inr (1, [.ref h7, .int 0, .int 0, .int 0])), (h7, .inl (cI, 8, .inl (fun _ => 0)))] := hD
  refine W.widen (k := 6) (n := 208) (by omega) (by omega) ?_
  refine va_putF (D := D) (ci := 2) (v := .ref h2) (ty := .object "WideHash$Sip") (C := RX2) (T := TX2) (N := 7) hx hb hts hi_2 tyX2 tyX2_ok nmX2 hown hK hP hD hS 0 rfl rfl 1 (by decide) fl_19 (fun _ h9 => h9) rfl hin rfl (by decide +kernel) rfl rfl (Nat.le_of_ble_eq_true rfl) dX2_init_23 (fun H locs hP hD hS => ?_)
  have hP : va_P D classes [(h0, .inr (2, [.ref h1, .ref h2, .null, .int 0, .int 0, .int 0, .int 0])), (h1, .inr (0, [.ref h4, .ref h5, .ref h6, .int 0])), (h4, .inl (cI, 16, .inl (fun _ => 0))), (h5, .inl (cI, 16, .inl (fun _ => 0))), (h6, .inl (cI, 160, .inl (fun _ => 0))), (h2, .inr (1, [.ref h7, .int 0, .int 0, .int 0])), (h7, .inl (cI, 8, .inl (fun _ => 0)))] H := hP
  have hD : va_D A [(h0, .inr (2, [.ref h1, .ref h2, .null, .int 0, .int 0, .int 0, .int 0])), (h1, .inr (0, [.ref h4, .ref h5, .ref h6, .int 0])), (h4, .inl (cI, 16, .inl (fun _ => 0))), (h5, .inl (cI, 16, .inl (fun _ => 0))), (h6, .inl (cI, 160, .inl (fun _ => 0))), (h2, .inr (1, [.ref h7, .int 0, .int 0, .int 0])), (h7, .inl (cI, 8, .inl (fun _ => 0)))] := hD
  refine lv_aload_n hx hb dX2_init_26 rfl (lv_at hl 0 rfl) ?_
  refine lv_iconst (v := 4) hx hb dX2_init_27 (by decide) ?_
  refine xk_newI hx hb ar_I hK hP hD hS hA 0 rfl 4 rfl (by decide) (Nat.le_of_ble_eq_true rfl) (Nat.le_of_ble_eq_true rfl) dX2_init_28 (fun h3 H hP hD hS => ?_)
  have hP : va_P D classes [(h0, .inr (2, [.ref h1, .ref h2, .null, .int 0, .int 0, .int 0, .int 0])), (h1, .inr (0, [.ref h4, .ref h5, .ref h6, .int 0])), (h4, .inl (cI, 16, .inl (fun _ => 0))), (h5, .inl (cI, 16, .inl (fun _ => 0))), (h6, .inl (cI, 160, .inl (fun _ => 0))), (h2, .inr (1, [.ref h7, .int 0, .int 0, .int 0])), (h7, .inl (cI, 8, .inl (fun _ => 0))), (h3, .inl (cI, 4, .inl (fun _ => 0)))] H := hP
  have hD : va_D A [(h0, .inr (2, [.ref h1, .ref h2, .null, .int 0, .int 0, .int 0, .int 0])), (h1, .inr (0, [.ref h4, .ref h5, .ref h6, .int 0])), (h4, .inl (cI, 16, .inl (fun _ => 0))), (h5, .inl (cI, 16, .inl (fun _ => 0))), (h6, .inl (cI, 160, .inl (fun _ => 0))), (h2, .inr (1, [.ref h7, .int 0, .int 0, .int 0])), (h7, .inl (cI, 8, .inl (fun _ => 0))), (h3, .inl (cI, 4, .inl (fun _ => 0)))] := hD
  refine W.widen (k := 7) (n := 212) (by omega) (by omega) ?_
  refine va_putF (D := D) (ci := 2) (v := .ref h3) (ty := .array .int) (C := RX2) (T := TX2) (N := 7) hx hb hts hi_2 tyX2 tyX2_ok nmX2 hown hK hP hD hS 0 rfl rfl 2 (by decide) fl_23 (fun _ h9 => h9) rfl hin rfl (by decide +kernel) rfl rfl (Nat.le_of_ble_eq_true rfl) dX2_init_30 (fun H locs hP hD hS => ?_)
  have hP : va_P D classes [(h0, .inr (2, [.ref h1, .ref h2, .ref h3, .int 0, .int 0, .int 0, .int 0])), (h1, .inr (0, [.ref h4, .ref h5, .ref h6, .int 0])), (h4, .inl (cI, 16, .inl (fun _ => 0))), (h5, .inl (cI, 16, .inl (fun _ => 0))), (h6, .inl (cI, 160, .inl (fun _ => 0))), (h2, .inr (1, [.ref h7, .int 0, .int 0, .int 0])), (h7, .inl (cI, 8, .inl (fun _ => 0))), (h3, .inl (cI, 4, .inl (fun _ => 0)))] H := hP
  have hD : va_D A [(h0, .inr (2, [.ref h1, .ref h2, .ref h3, .int 0, .int 0, .int 0, .int 0])), (h1, .inr (0, [.ref h4, .ref h5, .ref h6, .int 0])), (h4, .inl (cI, 16, .inl (fun _ => 0))), (h5, .inl (cI, 16, .inl (fun _ => 0))), (h6, .inl (cI, 160, .inl (fun _ => 0))), (h2, .inr (1, [.ref h7, .int 0, .int 0, .int 0])), (h7, .inl (cI, 8, .inl (fun _ => 0))), (h3, .inl (cI, 4, .inl (fun _ => 0)))] := hD
  refine lv_aload_n hx hb dX2_init_33 rfl (lv_at hl 0 rfl) ?_
  refine lv_iconst (v := 0) hx hb dX2_init_34 (by decide) ?_
  refine va_put (D := D) (ci := 2) (v := .int 0) (ty := .boolean) (C := RX2) (T := TX2) (N := 7) hx hb hts hi_2 tyX2 tyX2_ok nmX2 hown hK hP hD hS 0 rfl rfl 3 (by decide) fl_27 (fun _ h9 => h9) rfl (by decide +kernel) rfl rfl (Nat.le_of_ble_eq_true rfl) dX2_init_35 (fun H locs hP hD hS => ?_)
  have hP : va_P D classes [(h0, .inr (2, [.ref h1, .ref h2, .ref h3, .int 0, .int 0, .int 0, .int 0])), (h1, .inr (0, [.ref h4, .ref h5, .ref h6, .int 0])), (h4, .inl (cI, 16, .inl (fun _ => 0))), (h5, .inl (cI, 16, .inl (fun _ => 0))), (h6, .inl (cI, 160, .inl (fun _ => 0))), (h2, .inr (1, [.ref h7, .int 0, .int 0, .int 0])), (h7, .inl (cI, 8, .inl (fun _ => 0))), (h3, .inl (cI, 4, .inl (fun _ => 0)))] H := hP
  have hD : va_D A [(h0, .inr (2, [.ref h1, .ref h2, .ref h3, .int 0, .int 0, .int 0, .int 0])), (h1, .inr (0, [.ref h4, .ref h5, .ref h6, .int 0])), (h4, .inl (cI, 16, .inl (fun _ => 0))), (h5, .inl (cI, 16, .inl (fun _ => 0))), (h6, .inl (cI, 160, .inl (fun _ => 0))), (h2, .inr (1, [.ref h7, .int 0, .int 0, .int 0])), (h7, .inl (cI, 8, .inl (fun _ => 0))), (h3, .inl (cI, 4, .inl (fun _ => 0)))] := hD
  refine lv_aload_n hx hb dX2_init_38 rfl (lv_at hl 0 rfl) ?_
  refine lv_iconst (v := 0) hx hb dX2_init_39 (by decide) ?_
  refine va_put (D := D) (ci := 2) (v := .int 0) (ty := .boolean) (C := RX2) (T := TX2) (N := 7) hx hb hts hi_2 tyX2 tyX2_ok nmX2 hown hK hP hD hS 0 rfl rfl 4 (by decide) fl_31 (fun _ h9 => h9) rfl (by decide +kernel) rfl rfl (Nat.le_of_ble_eq_true rfl) dX2_init_40 (fun H locs hP hD hS => ?_)
  have hP : va_P D classes [(h0, .inr (2, [.ref h1, .ref h2, .ref h3, .int 0, .int 0, .int 0, .int 0])), (h1, .inr (0, [.ref h4, .ref h5, .ref h6, .int 0])), (h4, .inl (cI, 16, .inl (fun _ => 0))), (h5, .inl (cI, 16, .inl (fun _ => 0))), (h6, .inl (cI, 160, .inl (fun _ => 0))), (h2, .inr (1, [.ref h7, .int 0, .int 0, .int 0])), (h7, .inl (cI, 8, .inl (fun _ => 0))), (h3, .inl (cI, 4, .inl (fun _ => 0)))] H := hP
  have hD : va_D A [(h0, .inr (2, [.ref h1, .ref h2, .ref h3, .int 0, .int 0, .int 0, .int 0])), (h1, .inr (0, [.ref h4, .ref h5, .ref h6, .int 0])), (h4, .inl (cI, 16, .inl (fun _ => 0))), (h5, .inl (cI, 16, .inl (fun _ => 0))), (h6, .inl (cI, 160, .inl (fun _ => 0))), (h2, .inr (1, [.ref h7, .int 0, .int 0, .int 0])), (h7, .inl (cI, 8, .inl (fun _ => 0))), (h3, .inl (cI, 4, .inl (fun _ => 0)))] := hD
  refine lv_aload_n hx hb dX2_init_43 rfl (lv_at hl 0 rfl) ?_
  refine lv_iconst (v := 0) hx hb dX2_init_44 (by decide) ?_
  refine va_put (D := D) (ci := 2) (v := .int 0) (ty := .int) (C := RX2) (T := TX2) (N := 7) hx hb hts hi_2 tyX2 tyX2_ok nmX2 hown hK hP hD hS 0 rfl rfl 5 (by decide) fl_34 (fun _ h9 => h9) rfl (by decide +kernel) rfl rfl (Nat.le_of_ble_eq_true rfl) dX2_init_45 (fun H locs hP hD hS => ?_)
  have hP : va_P D classes [(h0, .inr (2, [.ref h1, .ref h2, .ref h3, .int 0, .int 0, .int 0, .int 0])), (h1, .inr (0, [.ref h4, .ref h5, .ref h6, .int 0])), (h4, .inl (cI, 16, .inl (fun _ => 0))), (h5, .inl (cI, 16, .inl (fun _ => 0))), (h6, .inl (cI, 160, .inl (fun _ => 0))), (h2, .inr (1, [.ref h7, .int 0, .int 0, .int 0])), (h7, .inl (cI, 8, .inl (fun _ => 0))), (h3, .inl (cI, 4, .inl (fun _ => 0)))] H := hP
  have hD : va_D A [(h0, .inr (2, [.ref h1, .ref h2, .ref h3, .int 0, .int 0, .int 0, .int 0])), (h1, .inr (0, [.ref h4, .ref h5, .ref h6, .int 0])), (h4, .inl (cI, 16, .inl (fun _ => 0))), (h5, .inl (cI, 16, .inl (fun _ => 0))), (h6, .inl (cI, 160, .inl (fun _ => 0))), (h2, .inr (1, [.ref h7, .int 0, .int 0, .int 0])), (h7, .inl (cI, 8, .inl (fun _ => 0))), (h3, .inl (cI, 4, .inl (fun _ => 0)))] := hD
  refine lv_aload_n hx hb dX2_init_48 rfl (lv_at hl 0 rfl) ?_
  refine lv_iconst (v := 0) hx hb dX2_init_49 (by decide) ?_
  refine va_put (D := D) (ci := 2) (v := .int 0) (ty := .int) (C := RX2) (T := TX2) (N := 7) hx hb hts hi_2 tyX2 tyX2_ok nmX2 hown hK hP hD hS 0 rfl rfl 6 (by decide) fl_38 (fun _ h9 => h9) rfl (by decide +kernel) rfl rfl (Nat.le_of_ble_eq_true rfl) dX2_init_50 (fun H locs hP hD hS => ?_)
  have hP : va_P D classes [(h0, .inr (2, [.ref h1, .ref h2, .ref h3, .int 0, .int 0, .int 0, .int 0])), (h1, .inr (0, [.ref h4, .ref h5, .ref h6, .int 0])), (h4, .inl (cI, 16, .inl (fun _ => 0))), (h5, .inl (cI, 16, .inl (fun _ => 0))), (h6, .inl (cI, 160, .inl (fun _ => 0))), (h2, .inr (1, [.ref h7, .int 0, .int 0, .int 0])), (h7, .inl (cI, 8, .inl (fun _ => 0))), (h3, .inl (cI, 4, .inl (fun _ => 0)))] H := hP
  have hD : va_D A [(h0, .inr (2, [.ref h1, .ref h2, .ref h3, .int 0, .int 0, .int 0, .int 0])), (h1, .inr (0, [.ref h4, .ref h5, .ref h6, .int 0])), (h4, .inl (cI, 16, .inl (fun _ => 0))), (h5, .inl (cI, 16, .inl (fun _ => 0))), (h6, .inl (cI, 160, .inl (fun _ => 0))), (h2, .inr (1, [.ref h7, .int 0, .int 0, .int 0])), (h7, .inl (cI, 8, .inl (fun _ => 0))), (h3, .inl (cI, 4, .inl (fun _ => 0)))] := hD
  exact ret (h1, h2, h3, h4, h5, h6, h7) _ _ _ _ hP hD hS dX2_init_53
