abbrev rm_X0_mixRound : Room := { frames := 2, cells := 0, slots := 0, locals := 46 }
set_option maxHeartbeats 4000000 in
set_option maxRecDepth 100000 in
theorem c_X0_mixRound (l : Launch) (D : va_G) (cI cL : ClassId) (sz : Nat) (h1 : Nat) (h4 : Nat) (h5 : Nat) (h6 : Nat) (fl : Int32) (lt : Nat → Int32) (sch : Nat → Int32) (k : Nat) (hk : k + 1 < 160) : xk_V l yX0_mixRound wsX0_mixRound rm_X0_mixRound xs_X D classes [(cI, .int), (cL, .long)] [.ref h1, .int (nI k)] [(h1, .inr (0, [.ref h4, .ref h5, .ref h6, .int fl])), (h5, .inl (cI, 16, .inl lt)), (h6, .inl (cI, 160, .inl sch))] [(h1, .inr (0, [.ref h4, .ref h5, .ref h6, .int fl])), (h5, .inl (cI, 16, .inl (jc_round xs_CR lt sch k))), (h6, .inl (cI, 160, .inl sch))] sz := by
  refine xk_entV (cc := cX0_mixRound) (maxL := 6) (by decide) rfl (Nat.le_of_ble_eq_true rfl) ?_
  intro p e s m args below meth co Q A ls hx hb hml hts hown hA hK hP hD hS hX ret hl
  have hl : lv_has ls 6 [(0, .ref h1), (1, .int (nI k))] := hl
  have hi_0 : ∀ w ∈ u_ws RX0 TX0 4, w ∈ wsX0_mixRound := by decide +kernel
  have fl_13 := hts (.fieldLink RX0 13 "WideHash$Sha" "letters" "[I") (by decide +kernel)
  have in_X2 := hts (.initialized RX2) (by decide +kernel)
  have sm_45 := hts (.static yX2_addTo) (by decide +kernel)
  have fl_63 := hts (.fieldLink RX0 63 "WideHash$Sha" "CUBE_ROOTS" "[I") (by decide +kernel)
  obtain ⟨tCUBE_ROOTS, hZ_tCUBE_ROOTS, hT_tCUBE_ROOTS⟩ := xs_get_CUBE_ROOTS hX
  have fl_16 := hts (.fieldLink RX0 16 "WideHash$Sha" "schedule" "[I") (by decide +kernel)
  have ml_26 := hts (.methodLink RX0 26 arraycopyName) (by decide +kernel)
  have na_ac := hts (.native arraycopyName) (by decide +kernel)
  have st_ac := hts (.static arraycopyName) (by decide +kernel)
  have in_sys := hts (.initialized "java/lang/System") (by decide +kernel)
  refine lv_aload_n hx hb dX0_mixRound_0 rfl (lv_at hl 0 rfl) ?_
  refine va_get (D := D) (ci := 0) (v := .ref h5) (C := RX0) (T := TX0) (N := 4) hx hb hts hi_0 hown hK hP 0 rfl rfl 1 (by decide) fl_13 (fun _ h9 => h9) rfl dX0_mixRound_1 ?_
  refine lv_bipush (v := 14) hx hb dX0_mixRound_4 (by decide) ?_
  refine lv_aload_n hx hb dX0_mixRound_6 rfl (lv_at hl 0 rfl) ?_
  refine va_get (D := D) (ci := 0) (v := .ref h5) (C := RX0) (T := TX0) (N := 4) hx hb hts hi_0 hown hK hP 0 rfl rfl 1 (by decide) fl_13 (fun _ h9 => h9) rfl dX0_mixRound_7 ?_
  refine lv_bipush (v := 8) hx hb dX0_mixRound_10 (by decide) ?_
  refine xk_iald hx hb hK hP 1 0 rfl rfl 8 rfl (by omega) (by decide) dX0_mixRound_12 ?_
  refine lv_aload_n hx hb dX0_mixRound_13 rfl (lv_at hl 0 rfl) ?_
  refine va_get (D := D) (ci := 0) (v := .ref h5) (C := RX0) (T := TX0) (N := 4) hx hb hts hi_0 hown hK hP 0 rfl rfl 1 (by decide) fl_13 (fun _ h9 => h9) rfl dX0_mixRound_14 ?_
  refine lv_bipush (v := 9) hx hb dX0_mixRound_17 (by decide) ?_
  refine xk_iald hx hb hK hP 1 0 rfl rfl 9 rfl (by omega) (by decide) dX0_mixRound_19 ?_
  refine xk_goI (r := (jc_SE (lt 8) (lt 9))) (wr := [(h1, .inr (0, [.ref h4, .ref h5, .ref h6, .int fl])), (h5, .inl (cI, 16, .inl lt)), (h6, .inl (cI, 160, .inl sch))]) (w2 := [(h1, .inr (0, [.ref h4, .ref h5, .ref h6, .int fl])), (h5, .inl (cI, 16, .inl lt)), (h6, .inl (cI, 160, .inl sch))]) (va_runS (As := [.int (lt 8), .int (lt 9)]) (rest := [.int 14, .ref h5]) ⟨hx, hb, hml, hown, hts⟩ (c_X0_turnsOfE l D cI cL s.heap.size (lt 8) (lt 9)) (va_cwS 2 hts gX0_mixRound_X0_turnsOfE rfl rfl rfl (by decide +kernel) ⟨Nat.le_of_ble_eq_true rfl, Nat.le_of_ble_eq_true rfl⟩) ⟨xk_blind xs_X_ok, xk_at xs_X_ok hX hP hD hK hS hA [] rfl (by decide) rfl⟩ rfl rfl hl.1 rfl (lv_room (Nat.le_of_ble_eq_true rfl)) dX0_mixRound_20 ⟨Nat.le_of_ble_eq_true rfl, Nat.le_of_ble_eq_true rfl⟩) hP hD hS hA [] [0, 1, 2] [0, 1, 2] rfl rfl (by decide) (by decide) rfl (by decide) rfl (fun H locs hP hD hS => ?_)
  refine lv_aload_n hx hb dX0_mixRound_23 rfl (lv_at hl 0 rfl) ?_
  refine va_get (D := D) (ci := 0) (v := .ref h5) (C := RX0) (T := TX0) (N := 4) hx hb hts hi_0 hown hK hP 0 rfl rfl 1 (by decide) fl_13 (fun _ h9 => h9) rfl dX0_mixRound_24 ?_
  refine lv_bipush (v := 9) hx hb dX0_mixRound_27 (by decide) ?_
  refine xk_iald hx hb hK hP 1 0 rfl rfl 9 rfl (by omega) (by decide) dX0_mixRound_29 ?_
  refine lv_aload_n hx hb dX0_mixRound_30 rfl (lv_at hl 0 rfl) ?_
  refine va_get (D := D) (ci := 0) (v := .ref h5) (C := RX0) (T := TX0) (N := 4) hx hb hts hi_0 hown hK hP 0 rfl rfl 1 (by decide) fl_13 (fun _ h9 => h9) rfl dX0_mixRound_31 ?_
  refine lv_bipush (v := 8) hx hb dX0_mixRound_34 (by decide) ?_
  refine xk_iald hx hb hK hP 1 0 rfl rfl 8 rfl (by omega) (by decide) dX0_mixRound_36 ?_
  refine xk_goI (r := (jc_SE (lt 9) (lt 8))) (wr := [(h1, .inr (0, [.ref h4, .ref h5, .ref h6, .int fl])), (h5, .inl (cI, 16, .inl lt)), (h6, .inl (cI, 160, .inl sch))]) (w2 := [(h1, .inr (0, [.ref h4, .ref h5, .ref h6, .int fl])), (h5, .inl (cI, 16, .inl lt)), (h6, .inl (cI, 160, .inl sch))]) (va_runS (As := [.int (lt 9), .int (lt 8)]) (rest := [.int (jc_SE (lt 8) (lt 9)), .int 14, .ref h5]) ⟨hx, hb, hml, hown, hts⟩ (c_X0_turnsOfE l D cI cL H.size (lt 9) (lt 8)) (va_cwS 2 hts gX0_mixRound_X0_turnsOfE rfl rfl rfl (by decide +kernel) ⟨Nat.le_of_ble_eq_true rfl, Nat.le_of_ble_eq_true rfl⟩) ⟨xk_blind xs_X_ok, xk_at xs_X_ok hX hP hD hK hS hA [] rfl (by decide) rfl⟩ rfl rfl hl.1 rfl (lv_room (Nat.le_of_ble_eq_true rfl)) dX0_mixRound_37 ⟨Nat.le_of_ble_eq_true rfl, Nat.le_of_ble_eq_true rfl⟩) hP hD hS hA [] [0, 1, 2] [0, 1, 2] rfl rfl (by decide) (by decide) rfl (by decide) rfl (fun H locs hP hD hS => ?_)
  refine xk_goV (wr := [(h1, .inr (0, [.ref h4, .ref h5, .ref h6, .int fl])), (h6, .inl (cI, 160, .inl sch))]) (w2 := [(h1, .inr (0, [.ref h4, .ref h5, .ref h6, .int fl])), (h5, .inl (cI, 16, .inl (jc_addTo lt 14 (jc_SE (lt 8) (lt 9)) (jc_SE (lt 9) (lt 8))))), (h6, .inl (cI, 160, .inl sch))]) (va_runSN (As := [.ref h5, .int 14, .int (jc_SE (lt 8) (lt 9)), .int (jc_SE (lt 9) (lt 8))]) (rest := []) ⟨hx, hb, hml, hown, hts⟩ (c_X2_addTo l D cI cL H.size h5 16 lt 14 (jc_SE (lt 8) (lt 9)) (jc_SE (lt 9) (lt 8)) (by omega) (by omega)) ⟨va_cnB 4 hts gX0_mixRound_X2_addTo_n45 rfl rfl rfl (xs_n0_45 hX) in_X2 (by decide +kernel) ⟨Nat.le_of_ble_eq_true rfl, Nat.le_of_ble_eq_true rfl⟩, sm_45, trivial⟩ ⟨xk_blind xk_0_ok, xk_at xk_0_ok trivial hP hD hK hS hA [1] rfl (by decide) rfl⟩ rfl rfl hl.1 rfl (lv_room (Nat.le_of_ble_eq_true rfl)) dX0_mixRound_40 ⟨Nat.le_of_ble_eq_true rfl, Nat.le_of_ble_eq_true rfl⟩) hP hD hS hA [1] [0, 2] [0, 2, 1] rfl rfl (by decide) (by decide) rfl (by decide) rfl (fun H locs hP hD hS => ?_)
  generalize eL1 : jc_addTo lt 14 (jc_SE (lt 8) (lt 9)) (jc_SE (lt 9) (lt 8)) = L1 at hP hD
  refine lv_aload_n hx hb dX0_mixRound_43 rfl (lv_at hl 0 rfl) ?_
  refine va_get (D := D) (ci := 0) (v := .ref h5) (C := RX0) (T := TX0) (N := 4) hx hb hts hi_0 hown hK hP 0 rfl rfl 1 (by decide) fl_13 (fun _ h9 => h9) rfl dX0_mixRound_44 ?_
  refine lv_bipush (v := 14) hx hb dX0_mixRound_47 (by decide) ?_
  refine lv_aload_n hx hb dX0_mixRound_49 rfl (lv_at hl 0 rfl) ?_
  refine lv_iconst (v := 0) hx hb dX0_mixRound_50 (by decide) ?_
  refine xk_goI (r := (jc_ch L1 0)) (wr := [(h6, .inl (cI, 160, .inl sch))]) (w2 := [(h1, .inr (0, [.ref h4, .ref h5, .ref h6, .int fl])), (h5, .inl (cI, 16, .inl L1)), (h6, .inl (cI, 160, .inl sch))]) (va_runV (As := [.int 0]) (rest := [.int 14, .ref h5]) ⟨hx, hb, hml, hown, hts⟩ (c_X0_chosen l D cI cL H.size h1 h4 h5 h6 fl L1 0 (by omega)) (cwV 1 hts gX0_mixRound_X0_chosen rfl rfl rfl (by decide +kernel) ⟨Nat.le_of_ble_eq_true rfl, Nat.le_of_ble_eq_true rfl⟩) ⟨xk_blind xk_0_ok, va_recv hK hP (ci := 0) (q0 := 0) rfl rfl, xk_at xk_0_ok trivial hP hD hK hS hA [0, 1] rfl (by decide) rfl⟩ rfl rfl hl.1 rfl (lv_room (Nat.le_of_ble_eq_true rfl)) dX0_mixRound_51 ⟨Nat.le_of_ble_eq_true rfl, Nat.le_of_ble_eq_true rfl⟩) hP hD hS hA [0, 1] [2] [1, 2, 0] rfl rfl (by decide) (by decide) rfl (by decide) rfl (fun H locs hP hD hS => ?_)
  refine lv_aload_n hx hb dX0_mixRound_54 rfl (lv_at hl 0 rfl) ?_
  refine lv_iconst (v := 1) hx hb dX0_mixRound_55 (by decide) ?_
  refine xk_goI (r := (jc_ch L1 1)) (wr := [(h6, .inl (cI, 160, .inl sch))]) (w2 := [(h1, .inr (0, [.ref h4, .ref h5, .ref h6, .int fl])), (h5, .inl (cI, 16, .inl L1)), (h6, .inl (cI, 160, .inl sch))]) (va_runV (As := [.int 1]) (rest := [.int (jc_ch L1 0), .int 14, .ref h5]) ⟨hx, hb, hml, hown, hts⟩ (c_X0_chosen l D cI cL H.size h1 h4 h5 h6 fl L1 1 (by omega)) (cwV 1 hts gX0_mixRound_X0_chosen rfl rfl rfl (by decide +kernel) ⟨Nat.le_of_ble_eq_true rfl, Nat.le_of_ble_eq_true rfl⟩) ⟨xk_blind xk_0_ok, va_recv hK hP (ci := 0) (q0 := 0) rfl rfl, xk_at xk_0_ok trivial hP hD hK hS hA [0, 1] rfl (by decide) rfl⟩ rfl rfl hl.1 rfl (lv_room (Nat.le_of_ble_eq_true rfl)) dX0_mixRound_56 ⟨Nat.le_of_ble_eq_true rfl, Nat.le_of_ble_eq_true rfl⟩) hP hD hS hA [0, 1] [2] [1, 2, 0] rfl rfl (by decide) (by decide) rfl (by decide) rfl (fun H locs hP hD hS => ?_)
  refine xk_goV (wr := [(h1, .inr (0, [.ref h4, .ref h5, .ref h6, .int fl])), (h6, .inl (cI, 160, .inl sch))]) (w2 := [(h1, .inr (0, [.ref h4, .ref h5, .ref h6, .int fl])), (h5, .inl (cI, 16, .inl (jc_addTo L1 14 (jc_ch L1 0) (jc_ch L1 1)))), (h6, .inl (cI, 160, .inl sch))]) (va_runSN (As := [.ref h5, .int 14, .int (jc_ch L1 0), .int (jc_ch L1 1)]) (rest := []) ⟨hx, hb, hml, hown, hts⟩ (c_X2_addTo l D cI cL H.size h5 16 L1 14 (jc_ch L1 0) (jc_ch L1 1) (by omega) (by omega)) ⟨va_cnB 4 hts gX0_mixRound_X2_addTo_n45 rfl rfl rfl (xs_n0_45 hX) in_X2 (by decide +kernel) ⟨Nat.le_of_ble_eq_true rfl, Nat.le_of_ble_eq_true rfl⟩, sm_45, trivial⟩ ⟨xk_blind xk_0_ok, xk_at xk_0_ok trivial hP hD hK hS hA [1] rfl (by decide) rfl⟩ rfl rfl hl.1 rfl (lv_room (Nat.le_of_ble_eq_true rfl)) dX0_mixRound_59 ⟨Nat.le_of_ble_eq_true rfl, Nat.le_of_ble_eq_true rfl⟩) hP hD hS hA [1] [0, 2] [0, 2, 1] rfl rfl (by decide) (by decide) rfl (by decide) rfl (fun H locs hP hD hS => ?_)
  generalize eL2 : jc_addTo L1 14 (jc_ch L1 0) (jc_ch L1 1) = L2 at hP hD
  refine lv_aload_n hx hb dX0_mixRound_62 rfl (lv_at hl 0 rfl) ?_
  refine va_get (D := D) (ci := 0) (v := .ref h5) (C := RX0) (T := TX0) (N := 4) hx hb hts hi_0 hown hK hP 0 rfl rfl 1 (by decide) fl_13 (fun _ h9 => h9) rfl dX0_mixRound_63 ?_
  refine lv_bipush (v := 14) hx hb dX0_mixRound_66 (by decide) ?_
  refine va_gets hx hb hZ_tCUBE_ROOTS hS hown fl_63 (fun _ h9 => h9) dX0_mixRound_68 ?_
  refine lv_iload_n hx hb dX0_mixRound_71 rfl (lv_at hl 1 rfl) ?_
  refine va_ti hx hb hT_tCUBE_ROOTS hS (vp_in_nI (n := k) (N := 160) (by omega) (by decide)) (v := .int (xs_CR k)) (by rw [nI_clamp (by omega)]) dX0_mixRound_72 ?_
  refine va_gets hx hb hZ_tCUBE_ROOTS hS hown fl_63 (fun _ h9 => h9) dX0_mixRound_73 ?_
  refine lv_iload_n hx hb dX0_mixRound_76 rfl (lv_at hl 1 rfl) ?_
  refine lv_iconst (v := 1) hx hb dX0_mixRound_77 (by decide) ?_
  refine xk_iaddN hx hb k 1 (k + 1) rfl rfl (by omega) dX0_mixRound_78 ?_
  refine va_ti hx hb hT_tCUBE_ROOTS hS (vp_in_nI (n := (k + 1)) (N := 160) (by omega) (by decide)) (v := .int (xs_CR (k + 1))) (by rw [nI_clamp (by omega)]) dX0_mixRound_79 ?_
  refine xk_goV (wr := [(h1, .inr (0, [.ref h4, .ref h5, .ref h6, .int fl])), (h6, .inl (cI, 160, .inl sch))]) (w2 := [(h1, .inr (0, [.ref h4, .ref h5, .ref h6, .int fl])), (h5, .inl (cI, 16, .inl (jc_addTo L2 14 (xs_CR k) (xs_CR (k + 1))))), (h6, .inl (cI, 160, .inl sch))]) (va_runSN (As := [.ref h5, .int 14, .int (xs_CR k), .int (xs_CR (k + 1))]) (rest := []) ⟨hx, hb, hml, hown, hts⟩ (c_X2_addTo l D cI cL H.size h5 16 L2 14 (xs_CR k) (xs_CR (k + 1)) (by omega) (by omega)) ⟨va_cnB 4 hts gX0_mixRound_X2_addTo_n45 rfl rfl rfl (xs_n0_45 hX) in_X2 (by decide +kernel) ⟨Nat.le_of_ble_eq_true rfl, Nat.le_of_ble_eq_true rfl⟩, sm_45, trivial⟩ ⟨xk_blind xk_0_ok, xk_at xk_0_ok trivial hP hD hK hS hA [1] rfl (by decide) rfl⟩ rfl rfl hl.1 rfl (lv_room (Nat.le_of_ble_eq_true rfl)) dX0_mixRound_80 ⟨Nat.le_of_ble_eq_true rfl, Nat.le_of_ble_eq_true rfl⟩) hP hD hS hA [1] [0, 2] [0, 2, 1] rfl rfl (by decide) (by decide) rfl (by decide) rfl (fun H locs hP hD hS => ?_)
  generalize eL3 : jc_addTo L2 14 (xs_CR k) (xs_CR (k + 1)) = L3 at hP hD
  refine lv_aload_n hx hb dX0_mixRound_83 rfl (lv_at hl 0 rfl) ?_
  refine va_get (D := D) (ci := 0) (v := .ref h5) (C := RX0) (T := TX0) (N := 4) hx hb hts hi_0 hown hK hP 0 rfl rfl 1 (by decide) fl_13 (fun _ h9 => h9) rfl dX0_mixRound_84 ?_
  refine lv_bipush (v := 14) hx hb dX0_mixRound_87 (by decide) ?_
  refine lv_aload_n hx hb dX0_mixRound_89 rfl (lv_at hl 0 rfl) ?_
  refine va_get (D := D) (ci := 0) (v := .ref h6) (C := RX0) (T := TX0) (N := 4) hx hb hts hi_0 hown hK hP 0 rfl rfl 2 (by decide) fl_16 (fun _ h9 => h9) rfl dX0_mixRound_90 ?_
  refine lv_iload_n hx hb dX0_mixRound_93 rfl (lv_at hl 1 rfl) ?_
  refine xk_iald hx hb hK hP 2 0 rfl rfl k rfl (by omega) (by decide) dX0_mixRound_94 ?_
  refine lv_aload_n hx hb dX0_mixRound_95 rfl (lv_at hl 0 rfl) ?_
  refine va_get (D := D) (ci := 0) (v := .ref h6) (C := RX0) (T := TX0) (N := 4) hx hb hts hi_0 hown hK hP 0 rfl rfl 2 (by decide) fl_16 (fun _ h9 => h9) rfl dX0_mixRound_96 ?_
  refine lv_iload_n hx hb dX0_mixRound_99 rfl (lv_at hl 1 rfl) ?_
  refine lv_iconst (v := 1) hx hb dX0_mixRound_100 (by decide) ?_
  refine xk_iaddN hx hb k 1 (k + 1) rfl rfl (by omega) dX0_mixRound_101 ?_
  refine xk_iald hx hb hK hP 2 0 rfl rfl (k + 1) rfl (by omega) (by decide) dX0_mixRound_102 ?_
  refine xk_goV (wr := [(h1, .inr (0, [.ref h4, .ref h5, .ref h6, .int fl])), (h6, .inl (cI, 160, .inl sch))]) (w2 := [(h1, .inr (0, [.ref h4, .ref h5, .ref h6, .int fl])), (h5, .inl (cI, 16, .inl (jc_addTo L3 14 (sch k) (sch (k + 1))))), (h6, .inl (cI, 160, .inl sch))]) (va_runSN (As := [.ref h5, .int 14, .int (sch k), .int (sch (k + 1))]) (rest := []) ⟨hx, hb, hml, hown, hts⟩ (c_X2_addTo l D cI cL H.size h5 16 L3 14 (sch k) (sch (k + 1)) (by omega) (by omega)) ⟨va_cnB 4 hts gX0_mixRound_X2_addTo_n45 rfl rfl rfl (xs_n0_45 hX) in_X2 (by decide +kernel) ⟨Nat.le_of_ble_eq_true rfl, Nat.le_of_ble_eq_true rfl⟩, sm_45, trivial⟩ ⟨xk_blind xk_0_ok, xk_at xk_0_ok trivial hP hD hK hS hA [1] rfl (by decide) rfl⟩ rfl rfl hl.1 rfl (lv_room (Nat.le_of_ble_eq_true rfl)) dX0_mixRound_103 ⟨Nat.le_of_ble_eq_true rfl, Nat.le_of_ble_eq_true rfl⟩) hP hD hS hA [1] [0, 2] [0, 2, 1] rfl rfl (by decide) (by decide) rfl (by decide) rfl (fun H locs hP hD hS => ?_)
  generalize eL4 : jc_addTo L3 14 (sch k) (sch (k + 1)) = L4 at hP hD
  refine lv_aload_n hx hb dX0_mixRound_106 rfl (lv_at hl 0 rfl) ?_
  refine va_get (D := D) (ci := 0) (v := .ref h5) (C := RX0) (T := TX0) (N := 4) hx hb hts hi_0 hown hK hP 0 rfl rfl 1 (by decide) fl_13 (fun _ h9 => h9) rfl dX0_mixRound_107 ?_
  refine lv_bipush (v := 14) hx hb dX0_mixRound_110 (by decide) ?_
  refine xk_iald hx hb hK hP 1 0 rfl rfl 14 rfl (by omega) (by decide) dX0_mixRound_112 ?_
  refine lv_istore_n (lv' := [(2, .int (L4 14)), (0, .ref h1), (1, .int (nI k))]) hx hb dX0_mixRound_113 rfl hl (by decide) rfl (fun ls hl => ?_)
  refine lv_aload_n hx hb dX0_mixRound_114 rfl (lv_at hl 1 rfl) ?_
  refine va_get (D := D) (ci := 0) (v := .ref h5) (C := RX0) (T := TX0) (N := 4) hx hb hts hi_0 hown hK hP 0 rfl rfl 1 (by decide) fl_13 (fun _ h9 => h9) rfl dX0_mixRound_115 ?_
  refine lv_bipush (v := 15) hx hb dX0_mixRound_118 (by decide) ?_
  refine xk_iald hx hb hK hP 1 0 rfl rfl 15 rfl (by omega) (by decide) dX0_mixRound_120 ?_
  refine lv_istore_n (lv' := [(3, .int (L4 15)), (2, .int (L4 14)), (0, .ref h1), (1, .int (nI k))]) hx hb dX0_mixRound_121 rfl hl (by decide) rfl (fun ls hl => ?_)
  refine lv_aload_n hx hb dX0_mixRound_122 rfl (lv_at hl 2 rfl) ?_
  refine lv_iconst (v := 0) hx hb dX0_mixRound_123 (by decide) ?_
  refine xk_goI (r := (jc_mj L4 0)) (wr := [(h6, .inl (cI, 160, .inl sch))]) (w2 := [(h1, .inr (0, [.ref h4, .ref h5, .ref h6, .int fl])), (h5, .inl (cI, 16, .inl L4)), (h6, .inl (cI, 160, .inl sch))]) (va_runV (As := [.int 0]) (rest := []) ⟨hx, hb, hml, hown, hts⟩ (c_X0_majority l D cI cL H.size h1 h4 h5 h6 fl L4 0 (by omega)) (cwV 1 hts gX0_mixRound_X0_majority rfl rfl rfl (by decide +kernel) ⟨Nat.le_of_ble_eq_true rfl, Nat.le_of_ble_eq_true rfl⟩) ⟨xk_blind xk_0_ok, va_recv hK hP (ci := 0) (q0 := 0) rfl rfl, xk_at xk_0_ok trivial hP hD hK hS hA [0, 1] rfl (by decide) rfl⟩ rfl rfl hl.1 rfl (lv_room (Nat.le_of_ble_eq_true rfl)) dX0_mixRound_124 ⟨Nat.le_of_ble_eq_true rfl, Nat.le_of_ble_eq_true rfl⟩) hP hD hS hA [0, 1] [2] [1, 2, 0] rfl rfl (by decide) (by decide) rfl (by decide) rfl (fun H locs hP hD hS => ?_)
  refine lv_istore (lv' := [(4, .int (jc_mj L4 0)), (3, .int (L4 15)), (2, .int (L4 14)), (0, .ref h1), (1, .int (nI k))]) hx hb dX0_mixRound_127 hl (by decide) rfl (fun ls hl => ?_)
  refine lv_aload_n hx hb dX0_mixRound_129 rfl (lv_at hl 3 rfl) ?_
  refine lv_iconst (v := 1) hx hb dX0_mixRound_130 (by decide) ?_
  refine xk_goI (r := (jc_mj L4 1)) (wr := [(h6, .inl (cI, 160, .inl sch))]) (w2 := [(h1, .inr (0, [.ref h4, .ref h5, .ref h6, .int fl])), (h5, .inl (cI, 16, .inl L4)), (h6, .inl (cI, 160, .inl sch))]) (va_runV (As := [.int 1]) (rest := []) ⟨hx, hb, hml, hown, hts⟩ (c_X0_majority l D cI cL H.size h1 h4 h5 h6 fl L4 1 (by omega)) (cwV 1 hts gX0_mixRound_X0_majority rfl rfl rfl (by decide +kernel) ⟨Nat.le_of_ble_eq_true rfl, Nat.le_of_ble_eq_true rfl⟩) ⟨xk_blind xk_0_ok, va_recv hK hP (ci := 0) (q0 := 0) rfl rfl, xk_at xk_0_ok trivial hP hD hK hS hA [0, 1] rfl (by decide) rfl⟩ rfl rfl hl.1 rfl (lv_room (Nat.le_of_ble_eq_true rfl)) dX0_mixRound_131 ⟨Nat.le_of_ble_eq_true rfl, Nat.le_of_ble_eq_true rfl⟩) hP hD hS hA [0, 1] [2] [1, 2, 0] rfl rfl (by decide) (by decide) rfl (by decide) rfl (fun H locs hP hD hS => ?_)
  refine lv_istore (lv' := [(5, .int (jc_mj L4 1)), (4, .int (jc_mj L4 0)), (3, .int (L4 15)), (2, .int (L4 14)), (0, .ref h1), (1, .int (nI k))]) hx hb dX0_mixRound_134 hl (by decide) rfl (fun ls hl => ?_)
  refine lv_aload_n hx hb dX0_mixRound_136 rfl (lv_at hl 4 rfl) ?_
  refine va_get (D := D) (ci := 0) (v := .ref h5) (C := RX0) (T := TX0) (N := 4) hx hb hts hi_0 hown hK hP 0 rfl rfl 1 (by decide) fl_13 (fun _ h9 => h9) rfl dX0_mixRound_137 ?_
  refine lv_iconst (v := 0) hx hb dX0_mixRound_140 (by decide) ?_
  refine lv_aload_n hx hb dX0_mixRound_141 rfl (lv_at hl 4 rfl) ?_
  refine va_get (D := D) (ci := 0) (v := .ref h5) (C := RX0) (T := TX0) (N := 4) hx hb hts hi_0 hown hK hP 0 rfl rfl 1 (by decide) fl_13 (fun _ h9 => h9) rfl dX0_mixRound_142 ?_
  refine lv_iconst (v := 2) hx hb dX0_mixRound_145 (by decide) ?_
  refine lv_bipush (v := 14) hx hb dX0_mixRound_146 (by decide) ?_
  refine xk_copyi hx hb (by rw [hml]; exact hl.1.symm) hown ml_26 na_ac st_ac in_sys hK hP hD hS 1 1 0 0 rfl rfl rfl rfl (sp := 0) (dp := 2) (n := 14) 0 2 14 rfl rfl rfl (by omega) (by omega) (by decide) (by decide) (Nat.le_of_ble_eq_true rfl) (Nat.le_of_ble_eq_true rfl) dX0_mixRound_148 (fun H locs hP hD hS => ?_)
  have hP : va_P D classes [(h1, .inr (0, [.ref h4, .ref h5, .ref h6, .int fl])), (h5, .inl (cI, 16, .inl (va_cpy L4 L4 0 2 14))), (h6, .inl (cI, 160, .inl sch))] H := hP
  have hD : va_D A [(h1, .inr (0, [.ref h4, .ref h5, .ref h6, .int fl])), (h5, .inl (cI, 16, .inl (va_cpy L4 L4 0 2 14))), (h6, .inl (cI, 160, .inl sch))] := hD
  generalize eL5 : va_cpy L4 L4 0 2 14 = L5 at hP hD
  refine lv_aload_n hx hb dX0_mixRound_151 rfl (lv_at hl 4 rfl) ?_
  refine va_get (D := D) (ci := 0) (v := .ref h5) (C := RX0) (T := TX0) (N := 4) hx hb hts hi_0 hown hK hP 0 rfl rfl 1 (by decide) fl_13 (fun _ h9 => h9) rfl dX0_mixRound_152 ?_
  refine lv_bipush (v := 8) hx hb dX0_mixRound_155 (by decide) ?_
  refine lv_iload_n hx hb dX0_mixRound_157 rfl (lv_at hl 3 rfl) ?_
  refine lv_iload_n hx hb dX0_mixRound_158 rfl (lv_at hl 2 rfl) ?_
  refine xk_goV (wr := [(h1, .inr (0, [.ref h4, .ref h5, .ref h6, .int fl])), (h6, .inl (cI, 160, .inl sch))]) (w2 := [(h1, .inr (0, [.ref h4, .ref h5, .ref h6, .int fl])), (h5, .inl (cI, 16, .inl (jc_addTo L5 8 (L4 14) (L4 15)))), (h6, .inl (cI, 160, .inl sch))]) (va_runSN (As := [.ref h5, .int 8, .int (L4 14), .int (L4 15)]) (rest := []) ⟨hx, hb, hml, hown, hts⟩ (c_X2_addTo l D cI cL H.size h5 16 L5 8 (L4 14) (L4 15) (by omega) (by omega)) ⟨va_cnB 4 hts gX0_mixRound_X2_addTo_n45 rfl rfl rfl (xs_n0_45 hX) in_X2 (by decide +kernel) ⟨Nat.le_of_ble_eq_true rfl, Nat.le_of_ble_eq_true rfl⟩, sm_45, trivial⟩ ⟨xk_blind xk_0_ok, xk_at xk_0_ok trivial hP hD hK hS hA [1] rfl (by decide) rfl⟩ rfl rfl hl.1 rfl (lv_room (Nat.le_of_ble_eq_true rfl)) dX0_mixRound_159 ⟨Nat.le_of_ble_eq_true rfl, Nat.le_of_ble_eq_true rfl⟩) hP hD hS hA [1] [0, 2] [0, 2, 1] rfl rfl (by decide) (by decide) rfl (by decide) rfl (fun H locs hP hD hS => ?_)
  generalize eL6 : jc_addTo L5 8 (L4 14) (L4 15) = L6 at hP hD
  refine lv_aload_n hx hb dX0_mixRound_162 rfl (lv_at hl 4 rfl) ?_
  refine va_get (D := D) (ci := 0) (v := .ref h5) (C := RX0) (T := TX0) (N := 4) hx hb hts hi_0 hown hK hP 0 rfl rfl 1 (by decide) fl_13 (fun _ h9 => h9) rfl dX0_mixRound_163 ?_
  refine lv_iconst (v := 0) hx hb dX0_mixRound_166 (by decide) ?_
  refine lv_iload_n hx hb dX0_mixRound_167 rfl (lv_at hl 3 rfl) ?_
  refine xk_iast hx hb hK hP hD hS 1 0 rfl rfl 0 rfl (by omega) (by decide) dX0_mixRound_168 (fun H locs hP hD hS => ?_)
  have hP : va_P D classes [(h1, .inr (0, [.ref h4, .ref h5, .ref h6, .int fl])), (h5, .inl (cI, 16, .inl (upd L6 0 (L4 14)))), (h6, .inl (cI, 160, .inl sch))] H := hP
  have hD : va_D A [(h1, .inr (0, [.ref h4, .ref h5, .ref h6, .int fl])), (h5, .inl (cI, 16, .inl (upd L6 0 (L4 14)))), (h6, .inl (cI, 160, .inl sch))] := hD
  generalize eL7 : upd L6 0 (L4 14) = L7 at hP hD
  refine lv_aload_n hx hb dX0_mixRound_169 rfl (lv_at hl 4 rfl) ?_
  refine va_get (D := D) (ci := 0) (v := .ref h5) (C := RX0) (T := TX0) (N := 4) hx hb hts hi_0 hown hK hP 0 rfl rfl 1 (by decide) fl_13 (fun _ h9 => h9) rfl dX0_mixRound_170 ?_
  refine lv_iconst (v := 1) hx hb dX0_mixRound_173 (by decide) ?_
  refine lv_iload_n hx hb dX0_mixRound_174 rfl (lv_at hl 2 rfl) ?_
  refine xk_iast hx hb hK hP hD hS 1 0 rfl rfl 1 rfl (by omega) (by decide) dX0_mixRound_175 (fun H locs hP hD hS => ?_)
  have hP : va_P D classes [(h1, .inr (0, [.ref h4, .ref h5, .ref h6, .int fl])), (h5, .inl (cI, 16, .inl (upd L7 1 (L4 15)))), (h6, .inl (cI, 160, .inl sch))] H := hP
  have hD : va_D A [(h1, .inr (0, [.ref h4, .ref h5, .ref h6, .int fl])), (h5, .inl (cI, 16, .inl (upd L7 1 (L4 15)))), (h6, .inl (cI, 160, .inl sch))] := hD
  generalize eL8 : upd L7 1 (L4 15) = L8 at hP hD
  refine lv_aload_n hx hb dX0_mixRound_176 rfl (lv_at hl 4 rfl) ?_
  refine va_get (D := D) (ci := 0) (v := .ref h5) (C := RX0) (T := TX0) (N := 4) hx hb hts hi_0 hown hK hP 0 rfl rfl 1 (by decide) fl_13 (fun _ h9 => h9) rfl dX0_mixRound_177 ?_
  refine lv_iconst (v := 0) hx hb dX0_mixRound_180 (by decide) ?_
  refine lv_aload_n hx hb dX0_mixRound_181 rfl (lv_at hl 4 rfl) ?_
  refine va_get (D := D) (ci := 0) (v := .ref h5) (C := RX0) (T := TX0) (N := 4) hx hb hts hi_0 hown hK hP 0 rfl rfl 1 (by decide) fl_13 (fun _ h9 => h9) rfl dX0_mixRound_182 ?_
  refine lv_iconst (v := 2) hx hb dX0_mixRound_185 (by decide) ?_
  refine xk_iald hx hb hK hP 1 0 rfl rfl 2 rfl (by omega) (by decide) dX0_mixRound_186 ?_
  refine lv_aload_n hx hb dX0_mixRound_187 rfl (lv_at hl 4 rfl) ?_
  refine va_get (D := D) (ci := 0) (v := .ref h5) (C := RX0) (T := TX0) (N := 4) hx hb hts hi_0 hown hK hP 0 rfl rfl 1 (by decide) fl_13 (fun _ h9 => h9) rfl dX0_mixRound_188 ?_
  refine lv_iconst (v := 3) hx hb dX0_mixRound_191 (by decide) ?_
  refine xk_iald hx hb hK hP 1 0 rfl rfl 3 rfl (by omega) (by decide) dX0_mixRound_192 ?_
  refine xk_goI (r := (jc_SA (L8 2) (L8 3))) (wr := [(h1, .inr (0, [.ref h4, .ref h5, .ref h6, .int fl])), (h5, .inl (cI, 16, .inl L8)), (h6, .inl (cI, 160, .inl sch))]) (w2 := [(h1, .inr (0, [.ref h4, .ref h5, .ref h6, .int fl])), (h5, .inl (cI, 16, .inl L8)), (h6, .inl (cI, 160, .inl sch))]) (va_runS (As := [.int (L8 2), .int (L8 3)]) (rest := [.int 0, .ref h5]) ⟨hx, hb, hml, hown, hts⟩ (c_X0_turnsOfA l D cI cL H.size (L8 2) (L8 3)) (va_cwS 2 hts gX0_mixRound_X0_turnsOfA rfl rfl rfl (by decide +kernel) ⟨Nat.le_of_ble_eq_true rfl, Nat.le_of_ble_eq_true rfl⟩) ⟨xk_blind xs_X_ok, xk_at xs_X_ok hX hP hD hK hS hA [] rfl (by decide) rfl⟩ rfl rfl hl.1 rfl (lv_room (Nat.le_of_ble_eq_true rfl)) dX0_mixRound_193 ⟨Nat.le_of_ble_eq_true rfl, Nat.le_of_ble_eq_true rfl⟩) hP hD hS hA [] [0, 1, 2] [0, 1, 2] rfl rfl (by decide) (by decide) rfl (by decide) rfl (fun H locs hP hD hS => ?_)
  refine lv_aload_n hx hb dX0_mixRound_196 rfl (lv_at hl 4 rfl) ?_
  refine va_get (D := D) (ci := 0) (v := .ref h5) (C := RX0) (T := TX0) (N := 4) hx hb hts hi_0 hown hK hP 0 rfl rfl 1 (by decide) fl_13 (fun _ h9 => h9) rfl dX0_mixRound_197 ?_
  refine lv_iconst (v := 3) hx hb dX0_mixRound_200 (by decide) ?_
  refine xk_iald hx hb hK hP 1 0 rfl rfl 3 rfl (by omega) (by decide) dX0_mixRound_201 ?_
  refine lv_aload_n hx hb dX0_mixRound_202 rfl (lv_at hl 4 rfl) ?_
  refine va_get (D := D) (ci := 0) (v := .ref h5) (C := RX0) (T := TX0) (N := 4) hx hb hts hi_0 hown hK hP 0 rfl rfl 1 (by decide) fl_13 (fun _ h9 => h9) rfl dX0_mixRound_203 ?_
  refine lv_iconst (v := 2) hx hb dX0_mixRound_206 (by decide) ?_
  refine xk_iald hx hb hK hP 1 0 rfl rfl 2 rfl (by omega) (by decide) dX0_mixRound_207 ?_
  refine xk_goI (r := (jc_SA (L8 3) (L8 2))) (wr := [(h1, .inr (0, [.ref h4, .ref h5, .ref h6, .int fl])), (h5, .inl (cI, 16, .inl L8)), (h6, .inl (cI, 160, .inl sch))]) (w2 := [(h1, .inr (0, [.ref h4, .ref h5, .ref h6, .int fl])), (h5, .inl (cI, 16, .inl L8)), (h6, .inl (cI, 160, .inl sch))]) (va_runS (As := [.int (L8 3), .int (L8 2)]) (rest := [.int (jc_SA (L8 2) (L8 3)), .int 0, .ref h5]) ⟨hx, hb, hml, hown, hts⟩ (c_X0_turnsOfA l D cI cL H.size (L8 3) (L8 2)) (va_cwS 2 hts gX0_mixRound_X0_turnsOfA rfl rfl rfl (by decide +kernel) ⟨Nat.le_of_ble_eq_true rfl, Nat.le_of_ble_eq_true rfl⟩) ⟨xk_blind xs_X_ok, xk_at xs_X_ok hX hP hD hK hS hA [] rfl (by decide) rfl⟩ rfl rfl hl.1 rfl (lv_room (Nat.le_of_ble_eq_true rfl)) dX0_mixRound_208 ⟨Nat.le_of_ble_eq_true rfl, Nat.le_of_ble_eq_true rfl⟩) hP hD hS hA [] [0, 1, 2] [0, 1, 2] rfl rfl (by decide) (by decide) rfl (by decide) rfl (fun H locs hP hD hS => ?_)
  refine xk_goV (wr := [(h1, .inr (0, [.ref h4, .ref h5, .ref h6, .int fl])), (h6, .inl (cI, 160, .inl sch))]) (w2 := [(h1, .inr (0, [.ref h4, .ref h5, .ref h6, .int fl])), (h5, .inl (cI, 16, .inl (jc_addTo L8 0 (jc_SA (L8 2) (L8 3)) (jc_SA (L8 3) (L8 2))))), (h6, .inl (cI, 160, .inl sch))]) (va_runSN (As := [.ref h5, .int 0, .int (jc_SA (L8 2) (L8 3)), .int (jc_SA (L8 3) (L8 2))]) (rest := []) ⟨hx, hb, hml, hown, hts⟩ (c_X2_addTo l D cI cL H.size h5 16 L8 0 (jc_SA (L8 2) (L8 3)) (jc_SA (L8 3) (L8 2)) (by omega) (by omega)) ⟨va_cnB 4 hts gX0_mixRound_X2_addTo_n45 rfl rfl rfl (xs_n0_45 hX) in_X2 (by decide +kernel) ⟨Nat.le_of_ble_eq_true rfl, Nat.le_of_ble_eq_true rfl⟩, sm_45, trivial⟩ ⟨xk_blind xk_0_ok, xk_at xk_0_ok trivial hP hD hK hS hA [1] rfl (by decide) rfl⟩ rfl rfl hl.1 rfl (lv_room (Nat.le_of_ble_eq_true rfl)) dX0_mixRound_211 ⟨Nat.le_of_ble_eq_true rfl, Nat.le_of_ble_eq_true rfl⟩) hP hD hS hA [1] [0, 2] [0, 2, 1] rfl rfl (by decide) (by decide) rfl (by decide) rfl (fun H locs hP hD hS => ?_)
  generalize eL9 : jc_addTo L8 0 (jc_SA (L8 2) (L8 3)) (jc_SA (L8 3) (L8 2)) = L9 at hP hD
  refine lv_aload_n hx hb dX0_mixRound_214 rfl (lv_at hl 4 rfl) ?_
  refine va_get (D := D) (ci := 0) (v := .ref h5) (C := RX0) (T := TX0) (N := 4) hx hb hts hi_0 hown hK hP 0 rfl rfl 1 (by decide) fl_13 (fun _ h9 => h9) rfl dX0_mixRound_215 ?_
  refine lv_iconst (v := 0) hx hb dX0_mixRound_218 (by decide) ?_
  refine lv_iload hx hb dX0_mixRound_219 (lv_at hl 1 rfl) ?_
  refine lv_iload hx hb dX0_mixRound_221 (lv_at hl 0 rfl) ?_
  refine xk_goV (wr := [(h1, .inr (0, [.ref h4, .ref h5, .ref h6, .int fl])), (h6, .inl (cI, 160, .inl sch))]) (w2 := [(h1, .inr (0, [.ref h4, .ref h5, .ref h6, .int fl])), (h5, .inl (cI, 16, .inl (jc_addTo L9 0 (jc_mj L4 0) (jc_mj L4 1)))), (h6, .inl (cI, 160, .inl sch))]) (va_runSN (As := [.ref h5, .int 0, .int (jc_mj L4 0), .int (jc_mj L4 1)]) (rest := []) ⟨hx, hb, hml, hown, hts⟩ (c_X2_addTo l D cI cL H.size h5 16 L9 0 (jc_mj L4 0) (jc_mj L4 1) (by omega) (by omega)) ⟨va_cnB 4 hts gX0_mixRound_X2_addTo_n45 rfl rfl rfl (xs_n0_45 hX) in_X2 (by decide +kernel) ⟨Nat.le_of_ble_eq_true rfl, Nat.le_of_ble_eq_true rfl⟩, sm_45, trivial⟩ ⟨xk_blind xk_0_ok, xk_at xk_0_ok trivial hP hD hK hS hA [1] rfl (by decide) rfl⟩ rfl rfl hl.1 rfl (lv_room (Nat.le_of_ble_eq_true rfl)) dX0_mixRound_223 ⟨Nat.le_of_ble_eq_true rfl, Nat.le_of_ble_eq_true rfl⟩) hP hD hS hA [1] [0, 2] [0, 2, 1] rfl rfl (by decide) (by decide) rfl (by decide) rfl (fun H locs hP hD hS => ?_)
  generalize eL10 : jc_addTo L9 0 (jc_mj L4 0) (jc_mj L4 1) = L10 at hP hD
  subst eL1
  subst eL2
  subst eL3
  subst eL4
  subst eL5
  subst eL6
  subst eL7
  subst eL8
  subst eL9
  subst eL10
  exact ret _ _ _ _ hP hD hS dX0_mixRound_226
