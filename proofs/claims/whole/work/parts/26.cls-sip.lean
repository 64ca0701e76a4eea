abbrev rm_X1_turnLeft : Room := { frames := 1, cells := 0, slots := 0, locals := 25 }
set_option maxHeartbeats 4000000 in
set_option maxRecDepth 100000 in
theorem c_X1_turnLeft (l : Launch) (D : va_G) (cI cL : ClassId) (sz : Nat) (h2 : Nat) (h7 : Nat) (gh : Int32) (gl : Int32) (fl : Int32) (v : Nat → Int32) (k : Nat) (n : Int32) (hk : k + 1 < 8) : xk_V l yX1_turnLeft wsX1_turnLeft rm_X1_turnLeft xs_X D classes [(cI, .int), (cL, .long)] [.ref h2, .int (nI k), .int n] [(h2, .inr (1, [.ref h7, .int gh, .int gl, .int fl])), (h7, .inl (cI, 8, .inl v))] [(h2, .inr (1, [.ref h7, .int gh, .int gl, .int fl])), (h7, .inl (cI, 8, .inl (jc_left v k n)))] sz := by
  refine xk_entV (cc := cX1_turnLeft) (maxL := 5) (by decide) rfl (Nat.le_of_ble_eq_true rfl) ?_
  intro p e s m args below meth co Q A ls hx hb hml hts hown hA hK hP hD hS hX ret hl
  have hl : lv_has ls 5 [(0, .ref h2), (1, .int (nI k)), (2, .int n)] := hl
  have hi_1 : ∀ w ∈ u_ws RX1 TX1 4, w ∈ wsX1_turnLeft := by decide +kernel
  have fl_7 := hts (.fieldLink RX1 7 "WideHash$Sip" "v" "[I") (by decide +kernel)
  have in_X2 := hts (.initialized RX2) (by decide +kernel)
  have sm_26 := hts (.static yX2_turned) (by decide +kernel)
  refine lv_aload_n hx hb dX1_turnLeft_0 rfl (lv_at hl 0 rfl) ?_
  refine va_get (D := D) (ci := 1) (v := .ref h7) (C := RX1) (T := TX1) (N := 4) hx hb hts hi_1 hown hK hP 0 rfl rfl 0 (by decide) fl_7 (fun _ h9 => h9) rfl dX1_turnLeft_1 ?_
  refine lv_iload_n hx hb dX1_turnLeft_4 rfl (lv_at hl 1 rfl) ?_
  refine xk_iald hx hb hK hP 1 0 rfl rfl k rfl (by omega) (by decide) dX1_turnLeft_5 ?_
  refine lv_istore_n (lv' := [(3, .int (v k)), (0, .ref h2), (1, .int (nI k)), (2, .int n)]) hx hb dX1_turnLeft_6 rfl hl (by decide) rfl (fun ls hl => ?_)
  refine lv_aload_n hx hb dX1_turnLeft_7 rfl (lv_at hl 1 rfl) ?_
  refine va_get (D := D) (ci := 1) (v := .ref h7) (C := RX1) (T := TX1) (N := 4) hx hb hts hi_1 hown hK hP 0 rfl rfl 0 (by decide) fl_7 (fun _ h9 => h9) rfl dX1_turnLeft_8 ?_
  refine lv_iload_n hx hb dX1_turnLeft_11 rfl (lv_at hl 2 rfl) ?_
  refine lv_iconst (v := 1) hx hb dX1_turnLeft_12 (by decide) ?_
  refine xk_iaddN hx hb k 1 (k + 1) rfl rfl (by omega) dX1_turnLeft_13 ?_
  refine xk_iald hx hb hK hP 1 0 rfl rfl (k + 1) rfl (by omega) (by decide) dX1_turnLeft_14 ?_
  refine lv_istore (lv' := [(4, .int (v (k + 1))), (3, .int (v k)), (0, .ref h2), (1, .int (nI k)), (2, .int n)]) hx hb dX1_turnLeft_15 hl (by decide) rfl (fun ls hl => ?_)
  refine lv_aload_n hx hb dX1_turnLeft_17 rfl (lv_at hl 2 rfl) ?_
  refine va_get (D := D) (ci := 1) (v := .ref h7) (C := RX1) (T := TX1) (N := 4) hx hb hts hi_1 hown hK hP 0 rfl rfl 0 (by decide) fl_7 (fun _ h9 => h9) rfl dX1_turnLeft_18 ?_
  refine lv_iload_n hx hb dX1_turnLeft_21 rfl (lv_at hl 3 rfl) ?_
  refine lv_iload_n hx hb dX1_turnLeft_22 rfl (lv_at hl 1 rfl) ?_
  refine lv_iload hx hb dX1_turnLeft_23 (lv_at hl 0 rfl) ?_
  refine lv_iload_n hx hb dX1_turnLeft_25 rfl (lv_at hl 4 rfl) ?_
  refine lv_ineg hx hb dX1_turnLeft_26 ?_
  refine xk_goPI (r := (jc_turned (v k) (v (k + 1)) (-n))) (va_runSN (As := [.int (v k), .int (v (k + 1)), .int (-n)]) (rest := [.int (nI k), .ref h7]) ⟨hx, hb, hml, hown, hts⟩ (c_X2_turned l D (v k) (v (k + 1)) (-n)) ⟨va_cnB 3 hts gX1_turnLeft_X2_turned_n26 rfl rfl rfl (xs_n1_26 hX) in_X2 (by decide +kernel) ⟨Nat.le_of_ble_eq_true rfl, Nat.le_of_ble_eq_true rfl⟩, sm_26, trivial⟩ preEq rfl rfl hl.1 rfl (lv_room (Nat.le_of_ble_eq_true rfl)) dX1_turnLeft_27 ⟨Nat.le_of_ble_eq_true rfl, Nat.le_of_ble_eq_true rfl⟩) hP hS (fun H locs hP hS => ?_)
  refine xk_iast hx hb hK hP hD hS 1 0 rfl rfl k rfl (by omega) (by decide) dX1_turnLeft_30 (fun H locs hP hD hS => ?_)
  have hP : va_P D classes [(h2, .inr (1, [.ref h7, .int gh, .int gl, .int fl])), (h7, .inl (cI, 8, .inl (upd v k (jc_turned (v k) (v (k + 1)) (-n)))))] H := hP
  have hD : va_D A [(h2, .inr (1, [.ref h7, .int gh, .int gl, .int fl])), (h7, .inl (cI, 8, .inl (upd v k (jc_turned (v k) (v (k + 1)) (-n)))))] := hD
  generalize eL1 : upd v k (jc_turned (v k) (v (k + 1)) (-n)) = L1 at hP hD
  refine lv_aload_n hx hb dX1_turnLeft_31 rfl (lv_at hl 2 rfl) ?_
  refine va_get (D := D) (ci := 1) (v := .ref h7) (C := RX1) (T := TX1) (N := 4) hx hb hts hi_1 hown hK hP 0 rfl rfl 0 (by decide) fl_7 (fun _ h9 => h9) rfl dX1_turnLeft_32 ?_
  refine lv_iload_n hx hb dX1_turnLeft_35 rfl (lv_at hl 3 rfl) ?_
  refine lv_iconst (v := 1) hx hb dX1_turnLeft_36 (by decide) ?_
  refine xk_iaddN hx hb k 1 (k + 1) rfl rfl (by omega) dX1_turnLeft_37 ?_
  refine lv_iload hx hb dX1_turnLeft_38 (lv_at hl 0 rfl) ?_
  refine lv_iload_n hx hb dX1_turnLeft_40 rfl (lv_at hl 1 rfl) ?_
  refine lv_iload_n hx hb dX1_turnLeft_41 rfl (lv_at hl 4 rfl) ?_
  refine lv_ineg hx hb dX1_turnLeft_42 ?_
  refine xk_goPI (r := (jc_turned (v (k + 1)) (v k) (-n))) (va_runSN (As := [.int (v (k + 1)), .int (v k), .int (-n)]) (rest := [.int (nI (k + 1)), .ref h7]) ⟨hx, hb, hml, hown, hts⟩ (c_X2_turned l D (v (k + 1)) (v k) (-n)) ⟨va_cnB 3 hts gX1_turnLeft_X2_turned_n26 rfl rfl rfl (xs_n1_26 hX) in_X2 (by decide +kernel) ⟨Nat.le_of_ble_eq_true rfl, Nat.le_of_ble_eq_true rfl⟩, sm_26, trivial⟩ preEq rfl rfl hl.1 rfl (lv_room (Nat.le_of_ble_eq_true rfl)) dX1_turnLeft_43 ⟨Nat.le_of_ble_eq_true rfl, Nat.le_of_ble_eq_true rfl⟩) hP hS (fun H locs hP hS => ?_)
  refine xk_iast hx hb hK hP hD hS 1 0 rfl rfl (k + 1) rfl (by omega) (by decide) dX1_turnLeft_46 (fun H locs hP hD hS => ?_)
  have hP : va_P D classes [(h2, .inr (1, [.ref h7, .int gh, .int gl, .int fl])), (h7, .inl (cI, 8, .inl (upd L1 (k + 1) (jc_turned (v (k + 1)) (v k) (-n)))))] H := hP
  have hD : va_D A [(h2, .inr (1, [.ref h7, .int gh, .int gl, .int fl])), (h7, .inl (cI, 8, .inl (upd L1 (k + 1) (jc_turned (v (k + 1)) (v k) (-n)))))] := hD
  generalize eL2 : upd L1 (k + 1) (jc_turned (v (k + 1)) (v k) (-n)) = L2 at hP hD
  subst eL1
  subst eL2
  exact ret _ _ _ _ hP hD hS dX1_turnLeft_47
abbrev rm_X1_mixPair : Room := { frames := 2, cells := 0, slots := 0, locals := 49 }
set_option maxHeartbeats 4000000 in
set_option maxRecDepth 100000 in
theorem c_X1_mixPair (l : Launch) (D : va_G) (cI cL : ClassId) (sz : Nat) (h2 : Nat) (h7 : Nat) (gh : Int32) (gl : Int32) (fl : Int32) (v : Nat → Int32) (i : Nat) (j : Nat) (n : Int32) (hi : i + 1 < 8) (hj : j + 1 < 8) : xk_V l yX1_mixPair wsX1_mixPair rm_X1_mixPair xs_X D classes [(cI, .int), (cL, .long)] [.ref h2, .int (nI i), .int (nI j), .int n] [(h2, .inr (1, [.ref h7, .int gh, .int gl, .int fl])), (h7, .inl (cI, 8, .inl v))] [(h2, .inr (1, [.ref h7, .int gh, .int gl, .int fl])), (h7, .inl (cI, 8, .inl (jc_pair v i j n)))] sz := by
  refine xk_entV (cc := cX1_mixPair) (maxL := 4) (by decide) rfl (Nat.le_of_ble_eq_true rfl) ?_
  intro p e s m args below meth co Q A ls hx hb hml hts hown hA hK hP hD hS hX ret hl
  have hl : lv_has ls 4 [(0, .ref h2), (1, .int (nI i)), (2, .int (nI j)), (3, .int n)] := hl
  have hi_1 : ∀ w ∈ u_ws RX1 TX1 4, w ∈ wsX1_mixPair := by decide +kernel
  have fl_7 := hts (.fieldLink RX1 7 "WideHash$Sip" "v" "[I") (by decide +kernel)
  have in_X2 := hts (.initialized RX2) (by decide +kernel)
  have sm_50 := hts (.static yX2_addTo) (by decide +kernel)
  refine lv_aload_n hx hb dX1_mixPair_0 rfl (lv_at hl 0 rfl) ?_
  refine va_get (D := D) (ci := 1) (v := .ref h7) (C := RX1) (T := TX1) (N := 4) hx hb hts hi_1 hown hK hP 0 rfl rfl 0 (by decide) fl_7 (fun _ h9 => h9) rfl dX1_mixPair_1 ?_
  refine lv_iload_n hx hb dX1_mixPair_4 rfl (lv_at hl 1 rfl) ?_
  refine lv_aload_n hx hb dX1_mixPair_5 rfl (lv_at hl 0 rfl) ?_
  refine va_get (D := D) (ci := 1) (v := .ref h7) (C := RX1) (T := TX1) (N := 4) hx hb hts hi_1 hown hK hP 0 rfl rfl 0 (by decide) fl_7 (fun _ h9 => h9) rfl dX1_mixPair_6 ?_
  refine lv_iload_n hx hb dX1_mixPair_9 rfl (lv_at hl 2 rfl) ?_
  refine xk_iald hx hb hK hP 1 0 rfl rfl j rfl (by omega) (by decide) dX1_mixPair_10 ?_
  refine lv_aload_n hx hb dX1_mixPair_11 rfl (lv_at hl 0 rfl) ?_
  refine va_get (D := D) (ci := 1) (v := .ref h7) (C := RX1) (T := TX1) (N := 4) hx hb hts hi_1 hown hK hP 0 rfl rfl 0 (by decide) fl_7 (fun _ h9 => h9) rfl dX1_mixPair_12 ?_
  refine lv_iload_n hx hb dX1_mixPair_15 rfl (lv_at hl 2 rfl) ?_
  refine lv_iconst (v := 1) hx hb dX1_mixPair_16 (by decide) ?_
  refine xk_iaddN hx hb j 1 (j + 1) rfl rfl (by omega) dX1_mixPair_17 ?_
  refine xk_iald hx hb hK hP 1 0 rfl rfl (j + 1) rfl (by omega) (by decide) dX1_mixPair_18 ?_
  refine xk_goV (wr := [(h2, .inr (1, [.ref h7, .int gh, .int gl, .int fl]))]) (w2 := [(h2, .inr (1, [.ref h7, .int gh, .int gl, .int fl])), (h7, .inl (cI, 8, .inl (jc_addTo v i (v j) (v (j + 1)))))]) (va_runSN (As := [.ref h7, .int (nI i), .int (v j), .int (v (j + 1))]) (rest := []) ⟨hx, hb, hml, hown, hts⟩ (c_X2_addTo l D cI cL s.heap.size h7 8 v i (v j) (v (j + 1)) (by omega) (by omega)) ⟨va_cnB 4 hts gX1_mixPair_X2_addTo_n50 rfl rfl rfl (xs_n1_50 hX) in_X2 (by decide +kernel) ⟨Nat.le_of_ble_eq_true rfl, Nat.le_of_ble_eq_true rfl⟩, sm_50, trivial⟩ ⟨xk_blind xk_0_ok, xk_at xk_0_ok trivial hP hD hK hS hA [1] rfl (by decide) rfl⟩ rfl rfl hl.1 rfl (lv_room (Nat.le_of_ble_eq_true rfl)) dX1_mixPair_19 ⟨Nat.le_of_ble_eq_true rfl, Nat.le_of_ble_eq_true rfl⟩) hP hD hS hA [1] [0] [0, 1] rfl rfl (by decide) (by decide) rfl (by decide) rfl (fun H locs hP hD hS => ?_)
  generalize eL1 : jc_addTo v i (v j) (v (j + 1)) = L1 at hP hD
  refine lv_aload_n hx hb dX1_mixPair_22 rfl (lv_at hl 0 rfl) ?_
  refine lv_iload_n hx hb dX1_mixPair_23 rfl (lv_at hl 2 rfl) ?_
  refine lv_iload_n hx hb dX1_mixPair_24 rfl (lv_at hl 3 rfl) ?_
  refine xk_goV (wr := []) (w2 := [(h2, .inr (1, [.ref h7, .int gh, .int gl, .int fl])), (h7, .inl (cI, 8, .inl (jc_left L1 j n)))]) (va_runV (As := [.int (nI j), .int n]) (rest := []) ⟨hx, hb, hml, hown, hts⟩ (c_X1_turnLeft l D cI cL H.size h2 h7 gh gl fl L1 j n (by omega)) (cwV 2 hts gX1_mixPair_X1_turnLeft rfl rfl rfl (by decide +kernel) ⟨Nat.le_of_ble_eq_true rfl, Nat.le_of_ble_eq_true rfl⟩) ⟨xk_blind xs_X_ok, va_recv hK hP (ci := 1) (q0 := 0) rfl rfl, xk_at xs_X_ok hX hP hD hK hS hA [0, 1] rfl (by decide) rfl⟩ rfl rfl hl.1 rfl (lv_room (Nat.le_of_ble_eq_true rfl)) dX1_mixPair_25 ⟨Nat.le_of_ble_eq_true rfl, Nat.le_of_ble_eq_true rfl⟩) hP hD hS hA [0, 1] [] [0, 1] rfl rfl (by decide) (by decide) rfl (by decide) rfl (fun H locs hP hD hS => ?_)
  generalize eL2 : jc_left L1 j n = L2 at hP hD
  refine lv_aload_n hx hb dX1_mixPair_28 rfl (lv_at hl 0 rfl) ?_
  refine va_get (D := D) (ci := 1) (v := .ref h7) (C := RX1) (T := TX1) (N := 4) hx hb hts hi_1 hown hK hP 0 rfl rfl 0 (by decide) fl_7 (fun _ h9 => h9) rfl dX1_mixPair_29 ?_
  refine lv_iload_n hx hb dX1_mixPair_32 rfl (lv_at hl 2 rfl) ?_
  refine lv_dup2_11 hx hb dX1_mixPair_33 rfl rfl ?_
  refine xk_iald hx hb hK hP 1 0 rfl rfl j rfl (by omega) (by decide) dX1_mixPair_34 ?_
  refine lv_aload_n hx hb dX1_mixPair_35 rfl (lv_at hl 0 rfl) ?_
  refine va_get (D := D) (ci := 1) (v := .ref h7) (C := RX1) (T := TX1) (N := 4) hx hb hts hi_1 hown hK hP 0 rfl rfl 0 (by decide) fl_7 (fun _ h9 => h9) rfl dX1_mixPair_36 ?_
  refine lv_iload_n hx hb dX1_mixPair_39 rfl (lv_at hl 1 rfl) ?_
  refine xk_iald hx hb hK hP 1 0 rfl rfl i rfl (by omega) (by decide) dX1_mixPair_40 ?_
  refine lv_ixor hx hb dX1_mixPair_41 ?_
  refine xk_iast hx hb hK hP hD hS 1 0 rfl rfl j rfl (by omega) (by decide) dX1_mixPair_42 (fun H locs hP hD hS => ?_)
  have hP : va_P D classes [(h2, .inr (1, [.ref h7, .int gh, .int gl, .int fl])), (h7, .inl (cI, 8, .inl (upd L2 j ((L2 j) ^^^ (L2 i)))))] H := hP
  have hD : va_D A [(h2, .inr (1, [.ref h7, .int gh, .int gl, .int fl])), (h7, .inl (cI, 8, .inl (upd L2 j ((L2 j) ^^^ (L2 i)))))] := hD
  generalize eL3 : upd L2 j ((L2 j) ^^^ (L2 i)) = L3 at hP hD
  refine lv_aload_n hx hb dX1_mixPair_43 rfl (lv_at hl 0 rfl) ?_
  refine va_get (D := D) (ci := 1) (v := .ref h7) (C := RX1) (T := TX1) (N := 4) hx hb hts hi_1 hown hK hP 0 rfl rfl 0 (by decide) fl_7 (fun _ h9 => h9) rfl dX1_mixPair_44 ?_
  refine lv_iload_n hx hb dX1_mixPair_47 rfl (lv_at hl 2 rfl) ?_
  refine lv_iconst (v := 1) hx hb dX1_mixPair_48 (by decide) ?_
  refine xk_iaddN hx hb j 1 (j + 1) rfl rfl (by omega) dX1_mixPair_49 ?_
  refine lv_dup2_11 hx hb dX1_mixPair_50 rfl rfl ?_
  refine xk_iald hx hb hK hP 1 0 rfl rfl (j + 1) rfl (by omega) (by decide) dX1_mixPair_51 ?_
  refine lv_aload_n hx hb dX1_mixPair_52 rfl (lv_at hl 0 rfl) ?_
  refine va_get (D := D) (ci := 1) (v := .ref h7) (C := RX1) (T := TX1) (N := 4) hx hb hts hi_1 hown hK hP 0 rfl rfl 0 (by decide) fl_7 (fun _ h9 => h9) rfl dX1_mixPair_53 ?_
  refine lv_iload_n hx hb dX1_mixPair_56 rfl (lv_at hl 1 rfl) ?_
  refine lv_iconst (v := 1) hx hb dX1_mixPair_57 (by decide) ?_
  refine xk_iaddN hx hb i 1 (i + 1) rfl rfl (by omega) dX1_mixPair_58 ?_
  refine xk_iald hx hb hK hP 1 0 rfl rfl (i + 1) rfl (by omega) (by decide) dX1_mixPair_59 ?_
  refine lv_ixor hx hb dX1_mixPair_60 ?_
  refine xk_iast hx hb hK hP hD hS 1 0 rfl rfl (j + 1) rfl (by omega) (by decide) dX1_mixPair_61 (fun H locs hP hD hS => ?_)
  have hP : va_P D classes [(h2, .inr (1, [.ref h7, .int gh, .int gl, .int fl])), (h7, .inl (cI, 8, .inl (upd L3 (j + 1) ((L3 (j + 1)) ^^^ (L3 (i + 1))))))] H := hP
  have hD : va_D A [(h2, .inr (1, [.ref h7, .int gh, .int gl, .int fl])), (h7, .inl (cI, 8, .inl (upd L3 (j + 1) ((L3 (j + 1)) ^^^ (L3 (i + 1))))))] := hD
  generalize eL4 : upd L3 (j + 1) ((L3 (j + 1)) ^^^ (L3 (i + 1))) = L4 at hP hD
  subst eL1
  subst eL2
  subst eL3
  subst eL4
  exact ret _ _ _ _ hP hD hS dX1_mixPair_62
abbrev rm_X1_mixRound : Room := { frames := 3, cells := 0, slots := 0, locals := 72 }
set_option maxHeartbeats 4000000 in
set_option maxRecDepth 100000 in
theorem c_X1_mixRound (l : Launch) (D : va_G) (cI cL : ClassId) (sz : Nat) (h2 : Nat) (h7 : Nat) (gh : Int32) (gl : Int32) (fl : Int32) (v : Nat → Int32) : xk_V l yX1_mixRound wsX1_mixRound rm_X1_mixRound xs_X D classes [(cI, .int), (cL, .long)] [.ref h2] [(h2, .inr (1, [.ref h7, .int gh, .int gl, .int fl])), (h7, .inl (cI, 8, .inl v))] [(h2, .inr (1, [.ref h7, .int gh, .int gl, .int fl])), (h7, .inl (cI, 8, .inl (jc_sround v)))] sz := by
  refine xk_entV (cc := cX1_mixRound) (maxL := 1) (by decide) rfl (Nat.le_of_ble_eq_true rfl) ?_
  intro p e s m args below meth co Q A ls hx hb hml hts hown hA hK hP hD hS hX ret hl
  have hl : lv_has ls 1 [(0, .ref h2)] := hl
  have hi_1 : ∀ w ∈ u_ws RX1 TX1 4, w ∈ wsX1_mixRound := by decide +kernel
  refine lv_aload_n hx hb dX1_mixRound_0 rfl (lv_at hl 0 rfl) ?_
  refine lv_iconst (v := 0) hx hb dX1_mixRound_1 (by decide) ?_
  refine lv_iconst (v := 2) hx hb dX1_mixRound_2 (by decide) ?_
  refine lv_bipush (v := 13) hx hb dX1_mixRound_3 (by decide) ?_
  refine xk_goV (wr := []) (w2 := [(h2, .inr (1, [.ref h7, .int gh, .int gl, .int fl])), (h7, .inl (cI, 8, .inl (jc_pair v 0 2 13)))]) (va_runV (As := [.int 0, .int 2, .int 13]) (rest := []) ⟨hx, hb, hml, hown, hts⟩ (c_X1_mixPair l D cI cL s.heap.size h2 h7 gh gl fl v 0 2 13 (by omega) (by omega)) (cwV 3 hts gX1_mixRound_X1_mixPair rfl rfl rfl (by decide +kernel) ⟨Nat.le_of_ble_eq_true rfl, Nat.le_of_ble_eq_true rfl⟩) ⟨xk_blind xs_X_ok, va_recv hK hP (ci := 1) (q0 := 0) rfl rfl, xk_at xs_X_ok hX hP hD hK hS hA [0, 1] rfl (by decide) rfl⟩ rfl rfl hl.1 rfl (lv_room (Nat.le_of_ble_eq_true rfl)) dX1_mixRound_5 ⟨Nat.le_of_ble_eq_true rfl, Nat.le_of_ble_eq_true rfl⟩) hP hD hS hA [0, 1] [] [0, 1] rfl rfl (by decide) (by decide) rfl (by decide) rfl (fun H locs hP hD hS => ?_)
  generalize eL1 : jc_pair v 0 2 13 = L1 at hP hD
  refine lv_aload_n hx hb dX1_mixRound_8 rfl (lv_at hl 0 rfl) ?_
  refine lv_iconst (v := 0) hx hb dX1_mixRound_9 (by decide) ?_
  refine lv_bipush (v := 32) hx hb dX1_mixRound_10 (by decide) ?_
  refine xk_goV (wr := []) (w2 := [(h2, .inr (1, [.ref h7, .int gh, .int gl, .int fl])), (h7, .inl (cI, 8, .inl (jc_left L1 0 32)))]) (va_runV (As := [.int 0, .int 32]) (rest := []) ⟨hx, hb, hml, hown, hts⟩ (c_X1_turnLeft l D cI cL H.size h2 h7 gh gl fl L1 0 32 (by omega)) (cwV 2 hts gX1_mixRound_X1_turnLeft rfl rfl rfl (by decide +kernel) ⟨Nat.le_of_ble_eq_true rfl, Nat.le_of_ble_eq_true rfl⟩) ⟨xk_blind xs_X_ok, va_recv hK hP (ci := 1) (q0 := 0) rfl rfl, xk_at xs_X_ok hX hP hD hK hS hA [0, 1] rfl (by decide) rfl⟩ rfl rfl hl.1 rfl (lv_room (Nat.le_of_ble_eq_true rfl)) dX1_mixRound_12 ⟨Nat.le_of_ble_eq_true rfl, Nat.le_of_ble_eq_true rfl⟩) hP hD hS hA [0, 1] [] [0, 1] rfl rfl (by decide) (by decide) rfl (by decide) rfl (fun H locs hP hD hS => ?_)
  generalize eL2 : jc_left L1 0 32 = L2 at hP hD
  refine lv_aload_n hx hb dX1_mixRound_15 rfl (lv_at hl 0 rfl) ?_
  refine lv_iconst (v := 4) hx hb dX1_mixRound_16 (by decide) ?_
  refine lv_bipush (v := 6) hx hb dX1_mixRound_17 (by decide) ?_
  refine lv_bipush (v := 16) hx hb dX1_mixRound_19 (by decide) ?_
  refine xk_goV (wr := []) (w2 := [(h2, .inr (1, [.ref h7, .int gh, .int gl, .int fl])), (h7, .inl (cI, 8, .inl (jc_pair L2 4 6 16)))]) (va_runV (As := [.int 4, .int 6, .int 16]) (rest := []) ⟨hx, hb, hml, hown, hts⟩ (c_X1_mixPair l D cI cL H.size h2 h7 gh gl fl L2 4 6 16 (by omega) (by omega)) (cwV 3 hts gX1_mixRound_X1_mixPair rfl rfl rfl (by decide +kernel) ⟨Nat.le_of_ble_eq_true rfl, Nat.le_of_ble_eq_true rfl⟩) ⟨xk_blind xs_X_ok, va_recv hK hP (ci := 1) (q0 := 0) rfl rfl, xk_at xs_X_ok hX hP hD hK hS hA [0, 1] rfl (by decide) rfl⟩ rfl rfl hl.1 rfl (lv_room (Nat.le_of_ble_eq_true rfl)) dX1_mixRound_21 ⟨Nat.le_of_ble_eq_true rfl, Nat.le_of_ble_eq_true rfl⟩) hP hD hS hA [0, 1] [] [0, 1] rfl rfl (by decide) (by decide) rfl (by decide) rfl (fun H locs hP hD hS => ?_)
  generalize eL3 : jc_pair L2 4 6 16 = L3 at hP hD
  refine lv_aload_n hx hb dX1_mixRound_24 rfl (lv_at hl 0 rfl) ?_
  refine lv_iconst (v := 0) hx hb dX1_mixRound_25 (by decide) ?_
  refine lv_bipush (v := 6) hx hb dX1_mixRound_26 (by decide) ?_
  refine lv_bipush (v := 21) hx hb dX1_mixRound_28 (by decide) ?_
  refine xk_goV (wr := []) (w2 := [(h2, .inr (1, [.ref h7, .int gh, .int gl, .int fl])), (h7, .inl (cI, 8, .inl (jc_pair L3 0 6 21)))]) (va_runV (As := [.int 0, .int 6, .int 21]) (rest := []) ⟨hx, hb, hml, hown, hts⟩ (c_X1_mixPair l D cI cL H.size h2 h7 gh gl fl L3 0 6 21 (by omega) (by omega)) (cwV 3 hts gX1_mixRound_X1_mixPair rfl rfl rfl (by decide +kernel) ⟨Nat.le_of_ble_eq_true rfl, Nat.le_of_ble_eq_true rfl⟩) ⟨xk_blind xs_X_ok, va_recv hK hP (ci := 1) (q0 := 0) rfl rfl, xk_at xs_X_ok hX hP hD hK hS hA [0, 1] rfl (by decide) rfl⟩ rfl rfl hl.1 rfl (lv_room (Nat.le_of_ble_eq_true rfl)) dX1_mixRound_30 ⟨Nat.le_of_ble_eq_true rfl, Nat.le_of_ble_eq_true rfl⟩) hP hD hS hA [0, 1] [] [0, 1] rfl rfl (by decide) (by decide) rfl (by decide) rfl (fun H locs hP hD hS => ?_)
  generalize eL4 : jc_pair L3 0 6 21 = L4 at hP hD
  refine lv_aload_n hx hb dX1_mixRound_33 rfl (lv_at hl 0 rfl) ?_
  refine lv_iconst (v := 4) hx hb dX1_mixRound_34 (by decide) ?_
  refine lv_iconst (v := 2) hx hb dX1_mixRound_35 (by decide) ?_
  refine lv_bipush (v := 17) hx hb dX1_mixRound_36 (by decide) ?_
  refine xk_goV (wr := []) (w2 := [(h2, .inr (1, [.ref h7, .int gh, .int gl, .int fl])), (h7, .inl (cI, 8, .inl (jc_pair L4 4 2 17)))]) (va_runV (As := [.int 4, .int 2, .int 17]) (rest := []) ⟨hx, hb, hml, hown, hts⟩ (c_X1_mixPair l D cI cL H.size h2 h7 gh gl fl L4 4 2 17 (by omega) (by omega)) (cwV 3 hts gX1_mixRound_X1_mixPair rfl rfl rfl (by decide +kernel) ⟨Nat.le_of_ble_eq_true rfl, Nat.le_of_ble_eq_true rfl⟩) ⟨xk_blind xs_X_ok, va_recv hK hP (ci := 1) (q0 := 0) rfl rfl, xk_at xs_X_ok hX hP hD hK hS hA [0, 1] rfl (by decide) rfl⟩ rfl rfl hl.1 rfl (lv_room (Nat.le_of_ble_eq_true rfl)) dX1_mixRound_38 ⟨Nat.le_of_ble_eq_true rfl, Nat.le_of_ble_eq_true rfl⟩) hP hD hS hA [0, 1] [] [0, 1] rfl rfl (by decide) (by decide) rfl (by decide) rfl (fun H locs hP hD hS => ?_)
  generalize eL5 : jc_pair L4 4 2 17 = L5 at hP hD
  refine lv_aload_n hx hb dX1_mixRound_41 rfl (lv_at hl 0 rfl) ?_
  refine lv_iconst (v := 4) hx hb dX1_mixRound_42 (by decide) ?_
  refine lv_bipush (v := 32) hx hb dX1_mixRound_43 (by decide) ?_
  refine xk_goV (wr := []) (w2 := [(h2, .inr (1, [.ref h7, .int gh, .int gl, .int fl])), (h7, .inl (cI, 8, .inl (jc_left L5 4 32)))]) (va_runV (As := [.int 4, .int 32]) (rest := []) ⟨hx, hb, hml, hown, hts⟩ (c_X1_turnLeft l D cI cL H.size h2 h7 gh gl fl L5 4 32 (by omega)) (cwV 2 hts gX1_mixRound_X1_turnLeft rfl rfl rfl (by decide +kernel) ⟨Nat.le_of_ble_eq_true rfl, Nat.le_of_ble_eq_true rfl⟩) ⟨xk_blind xs_X_ok, va_recv hK hP (ci := 1) (q0 := 0) rfl rfl, xk_at xs_X_ok hX hP hD hK hS hA [0, 1] rfl (by decide) rfl⟩ rfl rfl hl.1 rfl (lv_room (Nat.le_of_ble_eq_true rfl)) dX1_mixRound_45 ⟨Nat.le_of_ble_eq_true rfl, Nat.le_of_ble_eq_true rfl⟩) hP hD hS hA [0, 1] [] [0, 1] rfl rfl (by decide) (by decide) rfl (by decide) rfl (fun H locs hP hD hS => ?_)
  generalize eL6 : jc_left L5 4 32 = L6 at hP hD
  subst eL1
  subst eL2
  subst eL3
  subst eL4
  subst eL5
  subst eL6
  exact ret _ _ _ _ hP hD hS dX1_mixRound_48
abbrev rm_X1_mixGroup : Room := { frames := 4, cells := 0, slots := 0, locals := 92 }
set_option maxHeartbeats 4000000 in
set_option maxRecDepth 100000 in
theorem c_X1_mixGroup (l : Launch) (D : va_G) (cI cL : ClassId) (sz : Nat) (h2 : Nat) (h7 : Nat) (gh : Int32) (gl : Int32) (fl : Int32) (v : Nat → Int32) : xk_V l yX1_mixGroup wsX1_mixGroup rm_X1_mixGroup xs_X D classes [(cI, .int), (cL, .long)] [.ref h2] [(h2, .inr (1, [.ref h7, .int gh, .int gl, .int fl])), (h7, .inl (cI, 8, .inl v))] [(h2, .inr (1, [.ref h7, .int gh, .int gl, .int fl])), (h7, .inl (cI, 8, .inl (jc_group v gh gl)))] sz := by
  refine xk_entV (cc := cX1_mixGroup) (maxL := 1) (by decide) rfl (Nat.le_of_ble_eq_true rfl) ?_
  intro p e s m args below meth co Q A ls hx hb hml hts hown hA hK hP hD hS hX ret hl
  have hl : lv_has ls 1 [(0, .ref h2)] := hl
  have hi_1 : ∀ w ∈ u_ws RX1 TX1 4, w ∈ wsX1_mixGroup := by decide +kernel
  have fl_7 := hts (.fieldLink RX1 7 "WideHash$Sip" "v" "[I") (by decide +kernel)
  have fl_13 := hts (.fieldLink RX1 13 "WideHash$Sip" "groupHigh" "I") (by decide +kernel)
  have fl_17 := hts (.fieldLink RX1 17 "WideHash$Sip" "groupLow" "I") (by decide +kernel)
  refine lv_aload_n hx hb dX1_mixGroup_0 rfl (lv_at hl 0 rfl) ?_
  refine va_get (D := D) (ci := 1) (v := .ref h7) (C := RX1) (T := TX1) (N := 4) hx hb hts hi_1 hown hK hP 0 rfl rfl 0 (by decide) fl_7 (fun _ h9 => h9) rfl dX1_mixGroup_1 ?_
  refine lv_bipush (v := 6) hx hb dX1_mixGroup_4 (by decide) ?_
  refine lv_dup2_11 hx hb dX1_mixGroup_6 rfl rfl ?_
  refine xk_iald hx hb hK hP 1 0 rfl rfl 6 rfl (by omega) (by decide) dX1_mixGroup_7 ?_
  refine lv_aload_n hx hb dX1_mixGroup_8 rfl (lv_at hl 0 rfl) ?_
  refine va_get (D := D) (ci := 1) (v := .int gh) (C := RX1) (T := TX1) (N := 4) hx hb hts hi_1 hown hK hP 0 rfl rfl 1 (by decide) fl_13 (fun _ h9 => h9) rfl dX1_mixGroup_9 ?_
  refine lv_ixor hx hb dX1_mixGroup_12 ?_
  refine xk_iast hx hb hK hP hD hS 1 0 rfl rfl 6 rfl (by omega) (by decide) dX1_mixGroup_13 (fun H locs hP hD hS => ?_)
  have hP : va_P D classes [(h2, .inr (1, [.ref h7, .int gh, .int gl, .int fl])), (h7, .inl (cI, 8, .inl (upd v 6 ((v 6) ^^^ gh))))] H := hP
  have hD : va_D A [(h2, .inr (1, [.ref h7, .int gh, .int gl, .int fl])), (h7, .inl (cI, 8, .inl (upd v 6 ((v 6) ^^^ gh))))] := hD
  generalize eL1 : upd v 6 ((v 6) ^^^ gh) = L1 at hP hD
  refine lv_aload_n hx hb dX1_mixGroup_14 rfl (lv_at hl 0 rfl) ?_
  refine va_get (D := D) (ci := 1) (v := .ref h7) (C := RX1) (T := TX1) (N := 4) hx hb hts hi_1 hown hK hP 0 rfl rfl 0 (by decide) fl_7 (fun _ h9 => h9) rfl dX1_mixGroup_15 ?_
  refine lv_bipush (v := 7) hx hb dX1_mixGroup_18 (by decide) ?_
  refine lv_dup2_11 hx hb dX1_mixGroup_20 rfl rfl ?_
  refine xk_iald hx hb hK hP 1 0 rfl rfl 7 rfl (by omega) (by decide) dX1_mixGroup_21 ?_
  refine lv_aload_n hx hb dX1_mixGroup_22 rfl (lv_at hl 0 rfl) ?_
  refine va_get (D := D) (ci := 1) (v := .int gl) (C := RX1) (T := TX1) (N := 4) hx hb hts hi_1 hown hK hP 0 rfl rfl 2 (by decide) fl_17 (fun _ h9 => h9) rfl dX1_mixGroup_23 ?_
  refine lv_ixor hx hb dX1_mixGroup_26 ?_
  refine xk_iast hx hb hK hP hD hS 1 0 rfl rfl 7 rfl (by omega) (by decide) dX1_mixGroup_27 (fun H locs hP hD hS => ?_)
  have hP : va_P D classes [(h2, .inr (1, [.ref h7, .int gh, .int gl, .int fl])), (h7, .inl (cI, 8, .inl (upd L1 7 ((L1 7) ^^^ gl))))] H := hP
  have hD : va_D A [(h2, .inr (1, [.ref h7, .int gh, .int gl, .int fl])), (h7, .inl (cI, 8, .inl (upd L1 7 ((L1 7) ^^^ gl))))] := hD
  generalize eL2 : upd L1 7 ((L1 7) ^^^ gl) = L2 at hP hD
  refine lv_aload_n hx hb dX1_mixGroup_28 rfl (lv_at hl 0 rfl) ?_
  refine xk_goV (wr := []) (w2 := [(h2, .inr (1, [.ref h7, .int gh, .int gl, .int fl])), (h7, .inl (cI, 8, .inl (jc_sround L2)))]) (va_runV (As := []) (rest := []) ⟨hx, hb, hml, hown, hts⟩ (c_X1_mixRound l D cI cL H.size h2 h7 gh gl fl L2) (cwV 0 hts gX1_mixGroup_X1_mixRound rfl rfl rfl (by decide +kernel) ⟨Nat.le_of_ble_eq_true rfl, Nat.le_of_ble_eq_true rfl⟩) ⟨xk_blind xs_X_ok, va_recv hK hP (ci := 1) (q0 := 0) rfl rfl, xk_at xs_X_ok hX hP hD hK hS hA [0, 1] rfl (by decide) rfl⟩ rfl rfl hl.1 rfl (lv_room (Nat.le_of_ble_eq_true rfl)) dX1_mixGroup_29 ⟨Nat.le_of_ble_eq_true rfl, Nat.le_of_ble_eq_true rfl⟩) hP hD hS hA [0, 1] [] [0, 1] rfl rfl (by decide) (by decide) rfl (by decide) rfl (fun H locs hP hD hS => ?_)
  generalize eL3 : jc_sround L2 = L3 at hP hD
  refine lv_aload_n hx hb dX1_mixGroup_32 rfl (lv_at hl 0 rfl) ?_
  refine xk_goV (wr := []) (w2 := [(h2, .inr (1, [.ref h7, .int gh, .int gl, .int fl])), (h7, .inl (cI, 8, .inl (jc_sround L3)))]) (va_runV (As := []) (rest := []) ⟨hx, hb, hml, hown, hts⟩ (c_X1_mixRound l D cI cL H.size h2 h7 gh gl fl L3) (cwV 0 hts gX1_mixGroup_X1_mixRound rfl rfl rfl (by decide +kernel) ⟨Nat.le_of_ble_eq_true rfl, Nat.le_of_ble_eq_true rfl⟩) ⟨xk_blind xs_X_ok, va_recv hK hP (ci := 1) (q0 := 0) rfl rfl, xk_at xs_X_ok hX hP hD hK hS hA [0, 1] rfl (by decide) rfl⟩ rfl rfl hl.1 rfl (lv_room (Nat.le_of_ble_eq_true rfl)) dX1_mixGroup_33 ⟨Nat.le_of_ble_eq_true rfl, Nat.le_of_ble_eq_true rfl⟩) hP hD hS hA [0, 1] [] [0, 1] rfl rfl (by decide) (by decide) rfl (by decide) rfl (fun H locs hP hD hS => ?_)
  generalize eL4 : jc_sround L3 = L4 at hP hD
  refine lv_aload_n hx hb dX1_mixGroup_36 rfl (lv_at hl 0 rfl) ?_
  refine va_get (D := D) (ci := 1) (v := .ref h7) (C := RX1) (T := TX1) (N := 4) hx hb hts hi_1 hown hK hP 0 rfl rfl 0 (by decide) fl_7 (fun _ h9 => h9) rfl dX1_mixGroup_37 ?_
  refine lv_iconst (v := 0) hx hb dX1_mixGroup_40 (by decide) ?_
  refine lv_dup2_11 hx hb dX1_mixGroup_41 rfl rfl ?_
  refine xk_iald hx hb hK hP 1 0 rfl rfl 0 rfl (by omega) (by decide) dX1_mixGroup_42 ?_
  refine lv_aload_n hx hb dX1_mixGroup_43 rfl (lv_at hl 0 rfl) ?_
  refine va_get (D := D) (ci := 1) (v := .int gh) (C := RX1) (T := TX1) (N := 4) hx hb hts hi_1 hown hK hP 0 rfl rfl 1 (by decide) fl_13 (fun _ h9 => h9) rfl dX1_mixGroup_44 ?_
  refine lv_ixor hx hb dX1_mixGroup_47 ?_
  refine xk_iast hx hb hK hP hD hS 1 0 rfl rfl 0 rfl (by omega) (by decide) dX1_mixGroup_48 (fun H locs hP hD hS => ?_)
  have hP : va_P D classes [(h2, .inr (1, [.ref h7, .int gh, .int gl, .int fl])), (h7, .inl (cI, 8, .inl (upd L4 0 ((L4 0) ^^^ gh))))] H := hP
  have hD : va_D A [(h2, .inr (1, [.ref h7, .int gh, .int gl, .int fl])), (h7, .inl (cI, 8, .inl (upd L4 0 ((L4 0) ^^^ gh))))] := hD
  generalize eL5 : upd L4 0 ((L4 0) ^^^ gh) = L5 at hP hD
  refine lv_aload_n hx hb dX1_mixGroup_49 rfl (lv_at hl 0 rfl) ?_
  refine va_get (D := D) (ci := 1) (v := .ref h7) (C := RX1) (T := TX1) (N := 4) hx hb hts hi_1 hown hK hP 0 rfl rfl 0 (by decide) fl_7 (fun _ h9 => h9) rfl dX1_mixGroup_50 ?_
  refine lv_iconst (v := 1) hx hb dX1_mixGroup_53 (by decide) ?_
  refine lv_dup2_11 hx hb dX1_mixGroup_54 rfl rfl ?_
  refine xk_iald hx hb hK hP 1 0 rfl rfl 1 rfl (by omega) (by decide) dX1_mixGroup_55 ?_
  refine lv_aload_n hx hb dX1_mixGroup_56 rfl (lv_at hl 0 rfl) ?_
  refine va_get (D := D) (ci := 1) (v := .int gl) (C := RX1) (T := TX1) (N := 4) hx hb hts hi_1 hown hK hP 0 rfl rfl 2 (by decide) fl_17 (fun _ h9 => h9) rfl dX1_mixGroup_57 ?_
  refine lv_ixor hx hb dX1_mixGroup_60 ?_
  refine xk_iast hx hb hK hP hD hS 1 0 rfl rfl 1 rfl (by omega) (by decide) dX1_mixGroup_61 (fun H locs hP hD hS => ?_)
  have hP : va_P D classes [(h2, .inr (1, [.ref h7, .int gh, .int gl, .int fl])), (h7, .inl (cI, 8, .inl (upd L5 1 ((L5 1) ^^^ gl))))] H := hP
  have hD : va_D A [(h2, .inr (1, [.ref h7, .int gh, .int gl, .int fl])), (h7, .inl (cI, 8, .inl (upd L5 1 ((L5 1) ^^^ gl))))] := hD
  generalize eL6 : upd L5 1 ((L5 1) ^^^ gl) = L6 at hP hD
  subst eL1
  subst eL2
  subst eL3
  subst eL4
  subst eL5
  subst eL6
  exact ret _ _ _ _ hP hD hS dX1_mixGroup_62
abbrev rm_X1_take : Room := { frames := 5, cells := 0, slots := 0, locals := 112 }
set_option maxHeartbeats 4000000 in
set_option maxRecDepth 100000 in
theorem c_X1_take (l : Launch) (D : va_G) (cI cL : ClassId) (sz : Nat) (h2 : Nat) (h7 : Nat) (S : xp_S) (b : Int32) (hk : S.2.2.2 < 8) : xk_V l yX1_take wsX1_take rm_X1_take xs_X D classes [(cI, .int), (cL, .long)] [.ref h2, .int b] [(h2, .inr (1, [.ref h7, .int S.2.1, .int S.2.2.1, .int (nI S.2.2.2)])), (h7, .inl (cI, 8, .inl S.1))] [(h2, .inr (1, [.ref h7, .int ((jc_ptake S b).2.1), .int ((jc_ptake S b).2.2.1), .int (nI ((jc_ptake S b).2.2.2))])), (h7, .inl (cI, 8, .inl ((jc_ptake S b).1)))] sz := by
  refine xk_entV (cc := cX1_take) (maxL := 2) (by decide) rfl (Nat.le_of_ble_eq_true rfl) ?_
  intro p e s m args below meth co Q A ls hx hb hml hts hown hA hK hP hD hS hX ret hl
  have hl : lv_has ls 2 [(0, .ref h2), (1, .int b)] := hl
  have hi_1 : ∀ w ∈ u_ws RX1 TX1 4, w ∈ wsX1_take := by decide +kernel
  have fl_17 := hts (.fieldLink RX1 17 "WideHash$Sip" "groupLow" "I") (by decide +kernel)
  have fl_13 := hts (.fieldLink RX1 13 "WideHash$Sip" "groupHigh" "I") (by decide +kernel)
  have in_X2 := hts (.initialized RX2) (by decide +kernel)
  have sm_26 := hts (.static yX2_turned) (by decide +kernel)
  have fl_20 := hts (.fieldLink RX1 20 "WideHash$Sip" "filled" "I") (by decide +kernel)
  refine lv_aload_n hx hb dX1_take_0 rfl (lv_at hl 0 rfl) ?_
  refine lv_aload_n hx hb dX1_take_1 rfl (lv_at hl 0 rfl) ?_
  refine va_get (D := D) (ci := 1) (v := .int S.2.2.1) (C := RX1) (T := TX1) (N := 4) hx hb hts hi_1 hown hK hP 0 rfl rfl 2 (by decide) fl_17 (fun _ h9 => h9) rfl dX1_take_2 ?_
  refine lv_aload_n hx hb dX1_take_5 rfl (lv_at hl 0 rfl) ?_
  refine va_get (D := D) (ci := 1) (v := .int S.2.1) (C := RX1) (T := TX1) (N := 4) hx hb hts hi_1 hown hK hP 0 rfl rfl 1 (by decide) fl_13 (fun _ h9 => h9) rfl dX1_take_6 ?_
  refine lv_bipush (v := 8) hx hb dX1_take_9 (by decide) ?_
  refine xk_goPI (r := (jc_turned S.2.2.1 S.2.1 8)) (va_runSN (As := [.int S.2.2.1, .int S.2.1, .int 8]) (rest := [.ref h2]) ⟨hx, hb, hml, hown, hts⟩ (c_X2_turned l D S.2.2.1 S.2.1 8) ⟨va_cnB 3 hts gX1_take_X2_turned_n26 rfl rfl rfl (xs_n1_26 hX) in_X2 (by decide +kernel) ⟨Nat.le_of_ble_eq_true rfl, Nat.le_of_ble_eq_true rfl⟩, sm_26, trivial⟩ preEq rfl rfl hl.1 rfl (lv_room (Nat.le_of_ble_eq_true rfl)) dX1_take_11 ⟨Nat.le_of_ble_eq_true rfl, Nat.le_of_ble_eq_true rfl⟩) hP hS (fun H locs hP hS => ?_)
  refine va_put (D := D) (ci := 1) (v := .int (jc_turned S.2.2.1 S.2.1 8)) (ty := .int) (C := RX1) (T := TX1) (N := 4) hx hb hts hi_1 tyX1 tyX1_ok nmX1 hown hK hP hD hS 0 rfl rfl 2 (by decide) fl_17 (fun _ h9 => h9) rfl (by decide +kernel) rfl rfl (Nat.le_of_ble_eq_true rfl) dX1_take_14 (fun H locs hP hD hS => ?_)
  have hP : va_P D classes [(h2, .inr (1, [.ref h7, .int S.2.1, .int (jc_turned S.2.2.1 S.2.1 8), .int (nI S.2.2.2)])), (h7, .inl (cI, 8, .inl S.1))] H := hP
  have hD : va_D A [(h2, .inr (1, [.ref h7, .int S.2.1, .int (jc_turned S.2.2.1 S.2.1 8), .int (nI S.2.2.2)])), (h7, .inl (cI, 8, .inl S.1))] := hD
  refine lv_aload_n hx hb dX1_take_17 rfl (lv_at hl 0 rfl) ?_
  refine lv_aload_n hx hb dX1_take_18 rfl (lv_at hl 0 rfl) ?_
  refine va_get (D := D) (ci := 1) (v := .int S.2.1) (C := RX1) (T := TX1) (N := 4) hx hb hts hi_1 hown hK hP 0 rfl rfl 1 (by decide) fl_13 (fun _ h9 => h9) rfl dX1_take_19 ?_
  refine lv_bipush (v := 8) hx hb dX1_take_22 (by decide) ?_
  refine lv_iushr (v := (xj_u S.2.1 8)) hx hb dX1_take_24 rfl ?_
  refine lv_iload_n hx hb dX1_take_25 rfl (lv_at hl 1 rfl) ?_
  refine lv_bipush (v := 24) hx hb dX1_take_26 (by decide) ?_
  refine lv_ishl hx hb dX1_take_28 ?_
  refine lv_ior hx hb dX1_take_29 ?_
  refine va_put (D := D) (ci := 1) (v := .int ((xj_u S.2.1 8) ||| (b <<< (24 &&& 31)))) (ty := .int) (C := RX1) (T := TX1) (N := 4) hx hb hts hi_1 tyX1 tyX1_ok nmX1 hown hK hP hD hS 0 rfl rfl 1 (by decide) fl_13 (fun _ h9 => h9) rfl (by decide +kernel) rfl rfl (Nat.le_of_ble_eq_true rfl) dX1_take_30 (fun H locs hP hD hS => ?_)
  have hP : va_P D classes [(h2, .inr (1, [.ref h7, .int ((xj_u S.2.1 8) ||| (b <<< (24 &&& 31))), .int (jc_turned S.2.2.1 S.2.1 8), .int (nI S.2.2.2)])), (h7, .inl (cI, 8, .inl S.1))] H := hP
  have hD : va_D A [(h2, .inr (1, [.ref h7, .int ((xj_u S.2.1 8) ||| (b <<< (24 &&& 31))), .int (jc_turned S.2.2.1 S.2.1 8), .int (nI S.2.2.2)])), (h7, .inl (cI, 8, .inl S.1))] := hD
  refine lv_aload_n hx hb dX1_take_33 rfl (lv_at hl 0 rfl) ?_
  refine lv_dup hx hb dX1_take_34 rfl ?_
  refine va_get (D := D) (ci := 1) (v := .int (nI S.2.2.2)) (C := RX1) (T := TX1) (N := 4) hx hb hts hi_1 hown hK hP 0 rfl rfl 3 (by decide) fl_20 (fun _ h9 => h9) rfl dX1_take_35 ?_
  refine lv_iconst (v := 1) hx hb dX1_take_38 (by decide) ?_
  refine xk_iaddN hx hb S.2.2.2 1 (S.2.2.2 + 1) rfl rfl (by omega) dX1_take_39 ?_
  refine va_put (D := D) (ci := 1) (v := .int (nI (S.2.2.2 + 1))) (ty := .int) (C := RX1) (T := TX1) (N := 4) hx hb hts hi_1 tyX1 tyX1_ok nmX1 hown hK hP hD hS 0 rfl rfl 3 (by decide) fl_20 (fun _ h9 => h9) rfl (by decide +kernel) rfl rfl (Nat.le_of_ble_eq_true rfl) dX1_take_40 (fun H locs hP hD hS => ?_)
  have hP : va_P D classes [(h2, .inr (1, [.ref h7, .int ((xj_u S.2.1 8) ||| (b <<< (24 &&& 31))), .int (jc_turned S.2.2.1 S.2.1 8), .int (nI (S.2.2.2 + 1))])), (h7, .inl (cI, 8, .inl S.1))] H := hP
  have hD : va_D A [(h2, .inr (1, [.ref h7, .int ((xj_u S.2.1 8) ||| (b <<< (24 &&& 31))), .int (jc_turned S.2.2.1 S.2.1 8), .int (nI (S.2.2.2 + 1))])), (h7, .inl (cI, 8, .inl S.1))] := hD
  refine lv_aload_n hx hb dX1_take_43 rfl (lv_at hl 0 rfl) ?_
  refine va_get (D := D) (ci := 1) (v := .int (nI (S.2.2.2 + 1))) (C := RX1) (T := TX1) (N := 4) hx hb hts hi_1 hown hK hP 0 rfl rfl 3 (by decide) fl_20 (fun _ h9 => h9) rfl dX1_take_44 ?_
  refine lv_bipush (v := 8) hx hb dX1_take_47 (by decide) ?_
  refine lv_icmp_ne (tgt := 61) hx hb dX1_take_49 (by decide) (fun c1 => ?_) (fun c1 => ?_)
  · have c2 : ¬ (S.2.2.2 + 1 = 8) := fun h => c1 (by rw [h]; rfl)
    rw [show jc_ptake S b = _ from if_neg c2] at ret
    exact ret _ _ _ _ hP hD hS dX1_take_61
  · have c2 : S.2.2.2 + 1 = 8 := (nI_eq (by omega) (by omega)).mp c1
    refine lv_aload_n hx hb dX1_take_52 rfl (lv_at hl 0 rfl) ?_
    refine xk_goV (wr := []) (w2 := [(h2, .inr (1, [.ref h7, .int ((xj_u S.2.1 8) ||| (b <<< (24 &&& 31))), .int (jc_turned S.2.2.1 S.2.1 8), .int (nI (S.2.2.2 + 1))])), (h7, .inl (cI, 8, .inl (jc_group S.1 ((xj_u S.2.1 8) ||| (b <<< (24 &&& 31))) (jc_turned S.2.2.1 S.2.1 8))))]) (va_runV (As := []) (rest := []) ⟨hx, hb, hml, hown, hts⟩ (c_X1_mixGroup l D cI cL H.size h2 h7 ((xj_u S.2.1 8) ||| (b <<< (24 &&& 31))) (jc_turned S.2.2.1 S.2.1 8) (nI (S.2.2.2 + 1)) S.1) (cwV 0 hts gX1_take_X1_mixGroup rfl rfl rfl (by decide +kernel) ⟨Nat.le_of_ble_eq_true rfl, Nat.le_of_ble_eq_true rfl⟩) ⟨xk_blind xs_X_ok, va_recv hK hP (ci := 1) (q0 := 0) rfl rfl, xk_at xs_X_ok hX hP hD hK hS hA [0, 1] rfl (by decide) rfl⟩ rfl rfl hl.1 rfl (lv_room (Nat.le_of_ble_eq_true rfl)) dX1_take_53 ⟨Nat.le_of_ble_eq_true rfl, Nat.le_of_ble_eq_true rfl⟩) hP hD hS hA [0, 1] [] [0, 1] rfl rfl (by decide) (by decide) rfl (by decide) rfl (fun H locs hP hD hS => ?_)
    generalize eL1 : jc_group S.1 ((xj_u S.2.1 8) ||| (b <<< (24 &&& 31))) (jc_turned S.2.2.1 S.2.1 8) = L1 at hP hD
    refine lv_aload_n hx hb dX1_take_56 rfl (lv_at hl 0 rfl) ?_
    refine lv_iconst (v := 0) hx hb dX1_take_57 (by decide) ?_
    refine va_put (D := D) (ci := 1) (v := .int 0) (ty := .int) (C := RX1) (T := TX1) (N := 4) hx hb hts hi_1 tyX1 tyX1_ok nmX1 hown hK hP hD hS 0 rfl rfl 3 (by decide) fl_20 (fun _ h9 => h9) rfl (by decide +kernel) rfl rfl (Nat.le_of_ble_eq_true rfl) dX1_take_58 (fun H locs hP hD hS => ?_)
    have hP : va_P D classes [(h2, .inr (1, [.ref h7, .int ((xj_u S.2.1 8) ||| (b <<< (24 &&& 31))), .int (jc_turned S.2.2.1 S.2.1 8), .int 0])), (h7, .inl (cI, 8, .inl L1))] H := hP
    have hD : va_D A [(h2, .inr (1, [.ref h7, .int ((xj_u S.2.1 8) ||| (b <<< (24 &&& 31))), .int (jc_turned S.2.2.1 S.2.1 8), .int 0])), (h7, .inl (cI, 8, .inl L1))] := hD
    subst eL1
    rw [show jc_ptake S b = _ from if_pos c2] at ret
    exact ret _ _ _ _ hP hD hS dX1_take_61
theorem jc_ptake_lt (S : xp_S) (b : Int32) (h : S.2.2.2 < 8) : (jc_ptake S b).2.2.2 < 8 := by
  by_cases c : S.2.2.2 + 1 = 8
  · rw [show jc_ptake S b = _ from if_pos c]; show 0 < 8; omega
  · rw [show jc_ptake S b = _ from if_neg c]; show S.2.2.2 + 1 < 8; omega
theorem jc_ppads_lt (S : xp_S) (h : S.2.2.2 < 8) : ∀ n, (jc_ppads S n).2.2.2 < 8
  | 0 => h
  | n + 1 => jc_ptake_lt _ 0 (jc_ppads_lt S h n)
abbrev rm_X1_end : Room := { frames := 6, cells := 0, slots := 0, locals := 133 }
set_option maxHeartbeats 4000000 in
set_option maxRecDepth 100000 in
theorem c_X1_end (l : Launch) (D : va_G) (cI cL : ClassId) (sz : Nat) (h2 : Nat) (h7 : Nat) (S : xp_S) (n : Int32) (hk : S.2.2.2 < 8) : xk_V l yX1_end wsX1_end rm_X1_end xs_X D classes [(cI, .int), (cL, .long)] [.ref h2, .int n] [(h2, .inr (1, [.ref h7, .int S.2.1, .int S.2.2.1, .int (nI S.2.2.2)])), (h7, .inl (cI, 8, .inl S.1))] [(h2, .inr (1, [.ref h7, .int ((jc_pend S n).2.1), .int ((jc_pend S n).2.2.1), .int (nI ((jc_pend S n).2.2.2))])), (h7, .inl (cI, 8, .inl ((jc_pend S n).1)))] sz := by
  refine xk_entV (cc := cX1_end) (maxL := 4) (by decide) rfl (Nat.le_of_ble_eq_true rfl) ?_
  intro p e s m args below meth co Q A ls hx hb hml hts hown hA hK hP hD hS hX ret hl
  have hl : lv_has ls 4 [(0, .ref h2), (1, .int n)] := hl
  have hi_1 : ∀ w ∈ u_ws RX1 TX1 4, w ∈ wsX1_end := by decide +kernel
  have fl_7 := hts (.fieldLink RX1 7 "WideHash$Sip" "v" "[I") (by decide +kernel)
  have hz : jc_pz n < 8 := Nat.mod_lt _ (by decide)
  refine lv_bipush (v := 7) hx hb dX1_end_0 (by decide) ?_
  refine lv_iload_n hx hb dX1_end_2 rfl (lv_at hl 1 rfl) ?_
  refine lv_isub hx hb dX1_end_3 ?_
  refine lv_bipush (v := 7) hx hb dX1_end_4 (by decide) ?_
  refine lv_iand hx hb dX1_end_6 ?_
  refine xk_as (nI (jc_pz n)) (pk_and _ 3 (by decide)) ?_
  refine lv_istore_n (lv' := [(2, .int (nI (jc_pz n))), (0, .ref h2), (1, .int n)]) hx hb dX1_end_7 rfl hl (by decide) rfl (fun ls hl => ?_)
  refine lv_iconst (v := 0) hx hb dX1_end_8 (by decide) ?_
  refine lv_istore_n (lv' := [(3, .int 0), (2, .int (nI (jc_pz n))), (0, .ref h2), (1, .int n)]) hx hb dX1_end_9 rfl hl (by decide) rfl (fun ls hl => ?_)
  have loopA : ∀ (d : Nat) (j : Nat), (hj : j + d = jc_pz n) → ∀ (H : Heap) (locs : List Loc) (ls : Array Slot), va_P D classes [(h2, .inr (1, [.ref h7, .int ((jc_ppads S j).2.1), .int ((jc_ppads S j).2.2.1), .int (nI ((jc_ppads S j).2.2.2))])), (h7, .inl (cI, 8, .inl ((jc_ppads S j).1)))] H → va_D A [(h2, .inr (1, [.ref h7, .int ((jc_ppads S j).2.1), .int ((jc_ppads S j).2.2.1), .int (nI ((jc_ppads S j).2.2.2))])), (h7, .inl (cI, 8, .inl ((jc_ppads S j).1)))] → va_S A s.heap H locs → lv_has ls 4 [(0, .ref h2), (1, .int n), (2, .int (nI (jc_pz n))), (3, .int (nI j))] → W p l e rm_X1_end s m args below meth co H locs 0 0 Q (F0 m 10 ls []) := by
    intro d
    induction d with
    | zero =>
      intro j hj H locs ls hP hD hS hl
      obtain rfl : j = jc_pz n := by omega
      refine lv_iload_n hx hb dX1_end_10 rfl (lv_at hl 3 rfl) ?_
      refine lv_iload_n hx hb dX1_end_11 rfl (lv_at hl 2 rfl) ?_
      refine lv_icmp_ge (tgt := 26) hx hb dX1_end_12 (by decide) (fun c => ?_) (fun c => ?_)
      · refine lv_aload_n hx hb dX1_end_26 rfl (lv_at hl 0 rfl) ?_
        refine lv_iload_n hx hb dX1_end_27 rfl (lv_at hl 1 rfl) ?_
        refine lv_sipush (v := 255) hx hb dX1_end_28 (by decide) ?_
        refine lv_iand hx hb dX1_end_31 ?_
        refine xk_goV (wr := []) (w2 := [(h2, .inr (1, [.ref h7, .int ((jc_ptake (jc_ppads S (jc_pz n)) (n &&& 255)).2.1), .int ((jc_ptake (jc_ppads S (jc_pz n)) (n &&& 255)).2.2.1), .int (nI ((jc_ptake (jc_ppads S (jc_pz n)) (n &&& 255)).2.2.2))])), (h7, .inl (cI, 8, .inl ((jc_ptake (jc_ppads S (jc_pz n)) (n &&& 255)).1)))]) (va_runV (As := [.int (n &&& 255)]) (rest := []) ⟨hx, hb, hml, hown, hts⟩ (c_X1_take l D cI cL H.size h2 h7 (jc_ppads S (jc_pz n)) (n &&& 255) (jc_ppads_lt _ hk _)) (cwV 1 hts gX1_end_X1_take rfl rfl rfl (by decide +kernel) ⟨Nat.le_of_ble_eq_true rfl, Nat.le_of_ble_eq_true rfl⟩) ⟨xk_blind xs_X_ok, va_recv hK hP (ci := 1) (q0 := 0) rfl rfl, xk_at xs_X_ok hX hP hD hK hS hA [0, 1] rfl (by decide) rfl⟩ rfl rfl hl.1 rfl (lv_room (Nat.le_of_ble_eq_true rfl)) dX1_end_32 ⟨Nat.le_of_ble_eq_true rfl, Nat.le_of_ble_eq_true rfl⟩) hP hD hS hA [0, 1] [] [0, 1] rfl rfl (by decide) (by decide) rfl (by decide) rfl (fun H locs hP hD hS => ?_)
        refine lv_aload_n hx hb dX1_end_35 rfl (lv_at hl 0 rfl) ?_
        refine va_get (D := D) (ci := 1) (v := .ref h7) (C := RX1) (T := TX1) (N := 4) hx hb hts hi_1 hown hK hP 0 rfl rfl 0 (by decide) fl_7 (fun _ h9 => h9) rfl dX1_end_36 ?_
        refine lv_iconst (v := 5) hx hb dX1_end_39 (by decide) ?_
        refine lv_dup2_11 hx hb dX1_end_40 rfl rfl ?_
        refine xk_iald hx hb hK hP 1 0 rfl rfl 5 rfl (by omega) (by decide) dX1_end_41 ?_
        refine lv_sipush (v := 255) hx hb dX1_end_42 (by decide) ?_
        refine lv_ixor hx hb dX1_end_45 ?_
        refine xk_iast hx hb hK hP hD hS 1 0 rfl rfl 5 rfl (by omega) (by decide) dX1_end_46 (fun H locs hP hD hS => ?_)
        have hP : va_P D classes [(h2, .inr (1, [.ref h7, .int ((jc_ptake (jc_ppads S (jc_pz n)) (n &&& 255)).2.1), .int ((jc_ptake (jc_ppads S (jc_pz n)) (n &&& 255)).2.2.1), .int (nI ((jc_ptake (jc_ppads S (jc_pz n)) (n &&& 255)).2.2.2))])), (h7, .inl (cI, 8, .inl (upd ((jc_ptake (jc_ppads S (jc_pz n)) (n &&& 255)).1) 5 ((((jc_ptake (jc_ppads S (jc_pz n)) (n &&& 255)).1) 5) ^^^ 255))))] H := hP
        have hD : va_D A [(h2, .inr (1, [.ref h7, .int ((jc_ptake (jc_ppads S (jc_pz n)) (n &&& 255)).2.1), .int ((jc_ptake (jc_ppads S (jc_pz n)) (n &&& 255)).2.2.1), .int (nI ((jc_ptake (jc_ppads S (jc_pz n)) (n &&& 255)).2.2.2))])), (h7, .inl (cI, 8, .inl (upd ((jc_ptake (jc_ppads S (jc_pz n)) (n &&& 255)).1) 5 ((((jc_ptake (jc_ppads S (jc_pz n)) (n &&& 255)).1) 5) ^^^ 255))))] := hD
        generalize eL1 : upd ((jc_ptake (jc_ppads S (jc_pz n)) (n &&& 255)).1) 5 ((((jc_ptake (jc_ppads S (jc_pz n)) (n &&& 255)).1) 5) ^^^ 255) = L1 at hP hD
        refine lv_iconst (v := 0) hx hb dX1_end_47 (by decide) ?_
        refine lv_istore_n (lv' := [(3, .int 0), (0, .ref h2), (1, .int n), (2, .int (nI (jc_pz n)))]) hx hb dX1_end_48 rfl hl (by decide) rfl (fun ls hl => ?_)
        subst eL1
        have loopB : ∀ (d : Nat) (j : Nat), (hj : j + d = 4) → ∀ (H : Heap) (locs : List Loc) (ls : Array Slot), va_P D classes [(h2, .inr (1, [.ref h7, .int ((jc_pendS S n).2.1), .int ((jc_pendS S n).2.2.1), .int (nI ((jc_pendS S n).2.2.2))])), (h7, .inl (cI, 8, .inl (jc_srounds (upd (jc_pendS S n).1 5 ((jc_pendS S n).1 5 ^^^ 255)) j)))] H → va_D A [(h2, .inr (1, [.ref h7, .int ((jc_pendS S n).2.1), .int ((jc_pendS S n).2.2.1), .int (nI ((jc_pendS S n).2.2.2))])), (h7, .inl (cI, 8, .inl (jc_srounds (upd (jc_pendS S n).1 5 ((jc_pendS S n).1 5 ^^^ 255)) j)))] → va_S A s.heap H locs → lv_has ls 4 [(0, .ref h2), (3, .int (nI j))] → W p l e rm_X1_end s m args below meth co H locs 0 0 Q (F0 m 49 ls []) := by
          intro d
          induction d with
          | zero =>
            intro j hj H locs ls hP hD hS hl
            obtain rfl : j = 4 := by omega
            refine lv_iload_n hx hb dX1_end_49 rfl (lv_at hl 1 rfl) ?_
            refine lv_iconst (v := 4) hx hb dX1_end_50 (by decide) ?_
            refine lv_icmp_ge (tgt := 64) hx hb dX1_end_51 (by decide) (fun c => ?_) (fun c => ?_)
            · exact ret _ _ _ _ hP hD hS dX1_end_64
            · exact absurd (nI_le (a := 4) (b := 4) (by omega) (by omega)) c
          | succ d ihloopB =>
            intro j hj H locs ls hP hD hS hl
            refine lv_iload_n hx hb dX1_end_49 rfl (lv_at hl 1 rfl) ?_
            refine lv_iconst (v := 4) hx hb dX1_end_50 (by decide) ?_
            refine lv_icmp_ge (tgt := 64) hx hb dX1_end_51 (by decide) (fun c => ?_) (fun c => ?_)
            · exact absurd c (nI_ge (a := j) (b := 4) (by omega) (by omega))
            · refine lv_aload_n hx hb dX1_end_54 rfl (lv_at hl 0 rfl) ?_
              refine xk_goV (wr := []) (w2 := [(h2, .inr (1, [.ref h7, .int ((jc_pendS S n).2.1), .int ((jc_pendS S n).2.2.1), .int (nI ((jc_pendS S n).2.2.2))])), (h7, .inl (cI, 8, .inl (jc_sround (jc_srounds (upd (jc_pendS S n).1 5 ((jc_pendS S n).1 5 ^^^ 255)) j))))]) (va_runV (As := []) (rest := []) ⟨hx, hb, hml, hown, hts⟩ (c_X1_mixRound l D cI cL H.size h2 h7 ((jc_pendS S n).2.1) ((jc_pendS S n).2.2.1) (nI ((jc_pendS S n).2.2.2)) (jc_srounds (upd (jc_pendS S n).1 5 ((jc_pendS S n).1 5 ^^^ 255)) j)) (cwV 0 hts gX1_end_X1_mixRound rfl rfl rfl (by decide +kernel) ⟨Nat.le_of_ble_eq_true rfl, Nat.le_of_ble_eq_true rfl⟩) ⟨xk_blind xs_X_ok, va_recv hK hP (ci := 1) (q0 := 0) rfl rfl, xk_at xs_X_ok hX hP hD hK hS hA [0, 1] rfl (by decide) rfl⟩ rfl rfl hl.1 rfl (lv_room (Nat.le_of_ble_eq_true rfl)) dX1_end_55 ⟨Nat.le_of_ble_eq_true rfl, Nat.le_of_ble_eq_true rfl⟩) hP hD hS hA [0, 1] [] [0, 1] rfl rfl (by decide) (by decide) rfl (by decide) rfl (fun H locs hP hD hS => ?_)
              generalize eL2 : jc_sround (jc_srounds (upd (jc_pendS S n).1 5 ((jc_pendS S n).1 5 ^^^ 255)) j) = L2 at hP hD
              refine lv_iinc (v := nI (j + 1)) (lv' := [(3, .int (nI (j + 1))), (0, .ref h2)]) hx hb dX1_end_58 hl (k := 1) rfl (xk_i1 (by omega)) (by decide) rfl (fun ls hl => ?_)
              refine lv_goto (tgt := 49) hx hb dX1_end_61 (by decide) ?_
              subst eL2
              exact ihloopB (j + 1) (by omega) _ _ _ hP hD hS (lv_sub hl [1, 0] rfl)
        exact loopB 4 0 rfl _ _ _ hP hD hS (lv_sub hl [1, 0] rfl)
      · exact absurd (nI_le (a := (jc_pz n)) (b := (jc_pz n)) (by omega) (by omega)) c
    | succ d ihloopA =>
      intro j hj H locs ls hP hD hS hl
      refine lv_iload_n hx hb dX1_end_10 rfl (lv_at hl 3 rfl) ?_
      refine lv_iload_n hx hb dX1_end_11 rfl (lv_at hl 2 rfl) ?_
      refine lv_icmp_ge (tgt := 26) hx hb dX1_end_12 (by decide) (fun c => ?_) (fun c => ?_)
      · exact absurd c (nI_ge (a := j) (b := (jc_pz n)) (by omega) (by omega))
      · refine lv_aload_n hx hb dX1_end_15 rfl (lv_at hl 0 rfl) ?_
        refine lv_iconst (v := 0) hx hb dX1_end_16 (by decide) ?_
        refine xk_goV (wr := []) (w2 := [(h2, .inr (1, [.ref h7, .int ((jc_ptake (jc_ppads S j) 0).2.1), .int ((jc_ptake (jc_ppads S j) 0).2.2.1), .int (nI ((jc_ptake (jc_ppads S j) 0).2.2.2))])), (h7, .inl (cI, 8, .inl ((jc_ptake (jc_ppads S j) 0).1)))]) (va_runV (As := [.int 0]) (rest := []) ⟨hx, hb, hml, hown, hts⟩ (c_X1_take l D cI cL H.size h2 h7 (jc_ppads S j) 0 (jc_ppads_lt _ hk _)) (cwV 1 hts gX1_end_X1_take rfl rfl rfl (by decide +kernel) ⟨Nat.le_of_ble_eq_true rfl, Nat.le_of_ble_eq_true rfl⟩) ⟨xk_blind xs_X_ok, va_recv hK hP (ci := 1) (q0 := 0) rfl rfl, xk_at xs_X_ok hX hP hD hK hS hA [0, 1] rfl (by decide) rfl⟩ rfl rfl hl.1 rfl (lv_room (Nat.le_of_ble_eq_true rfl)) dX1_end_17 ⟨Nat.le_of_ble_eq_true rfl, Nat.le_of_ble_eq_true rfl⟩) hP hD hS hA [0, 1] [] [0, 1] rfl rfl (by decide) (by decide) rfl (by decide) rfl (fun H locs hP hD hS => ?_)
        refine lv_iinc (v := nI (j + 1)) (lv' := [(3, .int (nI (j + 1))), (0, .ref h2), (1, .int n), (2, .int (nI (jc_pz n)))]) hx hb dX1_end_20 hl (k := 3) rfl (xk_i1 (by omega)) (by decide) rfl (fun ls hl => ?_)
        refine lv_goto (tgt := 10) hx hb dX1_end_23 (by decide) ?_
        exact ihloopA (j + 1) (by omega) _ _ _ hP hD hS (lv_sub hl [1, 2, 3, 0] rfl)
  exact loopA (jc_pz n) 0 (Nat.zero_add _) _ _ _ hP hD hS (lv_sub hl [2, 3, 1, 0] rfl)
abbrev rm_X1_wordAt : Room := { frames := 0, cells := 0, slots := 0, locals := 0 }
set_option maxHeartbeats 4000000 in
set_option maxRecDepth 100000 in
theorem c_X1_wordAt (l : Launch) (D : va_G) (cI cL : ClassId) (sz : Nat) (h2 : Nat) (h7 : Nat) (gh : Int32) (gl : Int32) (fl : Int32) (v : Nat → Int32) (i : Nat) (hi : i < 2) : xk_I l yX1_wordAt wsX1_wordAt rm_X1_wordAt xk_0 D classes [(cI, .int), (cL, .long)] [.ref h2, .int (nI i)] [(h2, .inr (1, [.ref h7, .int gh, .int gl, .int fl])), (h7, .inl (cI, 8, .inl v))] [(h2, .inr (1, [.ref h7, .int gh, .int gl, .int fl])), (h7, .inl (cI, 8, .inl v))] (jc_pword v i) sz := by
  refine xk_entI (cc := cX1_wordAt) (maxL := 2) (by decide) rfl (Nat.le_of_ble_eq_true rfl) ?_
  intro p e s m args below meth co Q A ls hx hb hml hts hown hA hK hP hD hS hX ret hl
  have hl : lv_has ls 2 [(0, .ref h2), (1, .int (nI i))] := hl
  have hi_1 : ∀ w ∈ u_ws RX1 TX1 4, w ∈ wsX1_wordAt := by decide +kernel
  have fl_7 := hts (.fieldLink RX1 7 "WideHash$Sip" "v" "[I") (by decide +kernel)
  refine lv_aload_n hx hb dX1_wordAt_0 rfl (lv_at hl 0 rfl) ?_
  refine va_get (D := D) (ci := 1) (v := .ref h7) (C := RX1) (T := TX1) (N := 4) hx hb hts hi_1 hown hK hP 0 rfl rfl 0 (by decide) fl_7 (fun _ h9 => h9) rfl dX1_wordAt_1 ?_
  refine lv_iconst (v := 0) hx hb dX1_wordAt_4 (by decide) ?_
  refine lv_iload_n hx hb dX1_wordAt_5 rfl (lv_at hl 1 rfl) ?_
  refine xk_iaddN hx hb 0 i (0 + i) rfl rfl (by omega) dX1_wordAt_6 ?_
  refine xk_iald hx hb hK hP 1 0 rfl rfl (0 + i) rfl (by omega) (by decide) dX1_wordAt_7 ?_
  refine lv_aload_n hx hb dX1_wordAt_8 rfl (lv_at hl 0 rfl) ?_
  refine va_get (D := D) (ci := 1) (v := .ref h7) (C := RX1) (T := TX1) (N := 4) hx hb hts hi_1 hown hK hP 0 rfl rfl 0 (by decide) fl_7 (fun _ h9 => h9) rfl dX1_wordAt_9 ?_
  refine lv_iconst (v := 2) hx hb dX1_wordAt_12 (by decide) ?_
  refine lv_iload_n hx hb dX1_wordAt_13 rfl (lv_at hl 1 rfl) ?_
  refine xk_iaddN hx hb 2 i (2 + i) rfl rfl (by omega) dX1_wordAt_14 ?_
  refine xk_iald hx hb hK hP 1 0 rfl rfl (2 + i) rfl (by omega) (by decide) dX1_wordAt_15 ?_
  refine lv_ixor hx hb dX1_wordAt_16 ?_
  refine lv_aload_n hx hb dX1_wordAt_17 rfl (lv_at hl 0 rfl) ?_
  refine va_get (D := D) (ci := 1) (v := .ref h7) (C := RX1) (T := TX1) (N := 4) hx hb hts hi_1 hown hK hP 0 rfl rfl 0 (by decide) fl_7 (fun _ h9 => h9) rfl dX1_wordAt_18 ?_
  refine lv_iconst (v := 4) hx hb dX1_wordAt_21 (by decide) ?_
  refine lv_iload_n hx hb dX1_wordAt_22 rfl (lv_at hl 1 rfl) ?_
  refine xk_iaddN hx hb 4 i (4 + i) rfl rfl (by omega) dX1_wordAt_23 ?_
  refine xk_iald hx hb hK hP 1 0 rfl rfl (4 + i) rfl (by omega) (by decide) dX1_wordAt_24 ?_
  refine lv_ixor hx hb dX1_wordAt_25 ?_
  refine lv_aload_n hx hb dX1_wordAt_26 rfl (lv_at hl 0 rfl) ?_
  refine va_get (D := D) (ci := 1) (v := .ref h7) (C := RX1) (T := TX1) (N := 4) hx hb hts hi_1 hown hK hP 0 rfl rfl 0 (by decide) fl_7 (fun _ h9 => h9) rfl dX1_wordAt_27 ?_
  refine lv_bipush (v := 6) hx hb dX1_wordAt_30 (by decide) ?_
  refine lv_iload_n hx hb dX1_wordAt_32 rfl (lv_at hl 1 rfl) ?_
  refine xk_iaddN hx hb 6 i (6 + i) rfl rfl (by omega) dX1_wordAt_33 ?_
  refine xk_iald hx hb hK hP 1 0 rfl rfl (6 + i) rfl (by omega) (by decide) dX1_wordAt_34 ?_
  refine lv_ixor hx hb dX1_wordAt_35 ?_
  exact ret _ _ _ _ _ rfl hP hD hS dX1_wordAt_36
abbrev rm_X1_begin : Room := { frames := 0, cells := 0, slots := 0, locals := 0 }
set_option maxHeartbeats 4000000 in
set_option maxRecDepth 100000 in
theorem c_X1_begin (l : Launch) (D : va_G) (cI cL : ClassId) (sz : Nat) (h2 : Nat) (h7 : Nat) (h3 : Nat) (gh : Int32) (gl : Int32) (fl : Int32) (v : Nat → Int32) (key : Nat → Int32) : xk_V l yX1_begin wsX1_begin rm_X1_begin xs_X D classes [(cI, .int), (cL, .long)] [.ref h2, .ref h3] [(h2, .inr (1, [.ref h7, .int gh, .int gl, .int fl])), (h7, .inl (cI, 8, .inl v)), (h3, .inl (cI, 4, .inl key))] [(h2, .inr (1, [.ref h7, .int gh, .int gl, .int 0])), (h7, .inl (cI, 8, .inl (jc_first xs_FR key v 4))), (h3, .inl (cI, 4, .inl key))] sz := by
  refine xk_entV (cc := cX1_begin) (maxL := 4) (by decide) rfl (Nat.le_of_ble_eq_true rfl) ?_
  intro p e s m args below meth co Q A ls hx hb hml hts hown hA hK hP hD hS hX ret hl
  have hl : lv_has ls 4 [(0, .ref h2), (1, .ref h3)] := hl
  have hi_1 : ∀ w ∈ u_ws RX1 TX1 4, w ∈ wsX1_begin := by decide +kernel
  have fl_7 := hts (.fieldLink RX1 7 "WideHash$Sip" "v" "[I") (by decide +kernel)
  have fl_23 := hts (.fieldLink RX1 23 "WideHash$Sip" "FIRST" "[I") (by decide +kernel)
  obtain ⟨tFIRST, hZ_tFIRST, hT_tFIRST⟩ := xs_get_FIRST hX
  have fl_20 := hts (.fieldLink RX1 20 "WideHash$Sip" "filled" "I") (by decide +kernel)
  refine lv_iconst (v := 0) hx hb dX1_begin_0 (by decide) ?_
  refine lv_istore_n (lv' := [(2, .int 0), (0, .ref h2), (1, .ref h3)]) hx hb dX1_begin_1 rfl hl (by decide) rfl (fun ls hl => ?_)
  have loopA : ∀ (d : Nat) (n : Nat), (hn : n + d = 4) → ∀ (H : Heap) (locs : List Loc) (ls : Array Slot), va_P D classes [(h2, .inr (1, [.ref h7, .int gh, .int gl, .int fl])), (h7, .inl (cI, 8, .inl (jc_first xs_FR key v n))), (h3, .inl (cI, 4, .inl key))] H → va_D A [(h2, .inr (1, [.ref h7, .int gh, .int gl, .int fl])), (h7, .inl (cI, 8, .inl (jc_first xs_FR key v n))), (h3, .inl (cI, 4, .inl key))] → va_S A s.heap H locs → lv_has ls 4 [(0, .ref h2), (1, .ref h3), (2, .int (nI (2 * n)))] → W p l e rm_X1_begin s m args below meth co H locs 0 0 Q (F0 m 2 ls []) := by
    intro d
    induction d with
    | zero =>
      intro n hn H locs ls hP hD hS hl
      obtain rfl : n = 4 := by omega
      refine lv_iload_n hx hb dX1_begin_2 rfl (lv_at hl 2 rfl) ?_
      refine lv_bipush (v := 6) hx hb dX1_begin_3 (by decide) ?_
      refine lv_icmp_gt (tgt := 54) hx hb dX1_begin_5 (by decide) (fun c => ?_) (fun c => ?_)
      · refine lv_aload_n hx hb dX1_begin_54 rfl (lv_at hl 0 rfl) ?_
        refine lv_iconst (v := 0) hx hb dX1_begin_55 (by decide) ?_
        refine va_put (D := D) (ci := 1) (v := .int 0) (ty := .int) (C := RX1) (T := TX1) (N := 4) hx hb hts hi_1 tyX1 tyX1_ok nmX1 hown hK hP hD hS 0 rfl rfl 3 (by decide) fl_20 (fun _ h9 => h9) rfl (by decide +kernel) rfl rfl (Nat.le_of_ble_eq_true rfl) dX1_begin_56 (fun H locs hP hD hS => ?_)
        have hP : va_P D classes [(h2, .inr (1, [.ref h7, .int gh, .int gl, .int 0])), (h7, .inl (cI, 8, .inl (jc_first xs_FR key v 4))), (h3, .inl (cI, 4, .inl key))] H := hP
        have hD : va_D A [(h2, .inr (1, [.ref h7, .int gh, .int gl, .int 0])), (h7, .inl (cI, 8, .inl (jc_first xs_FR key v 4))), (h3, .inl (cI, 4, .inl key))] := hD
        exact ret _ _ _ _ hP hD hS dX1_begin_59
      · exact absurd (nI_lt (a := 6) (b := (2 * 4)) (by omega) (by omega)) c
    | succ d ihloopA =>
      intro n hn H locs ls hP hD hS hl
      refine lv_iload_n hx hb dX1_begin_2 rfl (lv_at hl 2 rfl) ?_
      refine lv_bipush (v := 6) hx hb dX1_begin_3 (by decide) ?_
      refine lv_icmp_gt (tgt := 54) hx hb dX1_begin_5 (by decide) (fun c => ?_) (fun c => ?_)
      · exact absurd c (nI_nlt (a := 6) (b := (2 * n)) (by omega) (by omega))
      · refine lv_iload_n hx hb dX1_begin_8 rfl (lv_at hl 2 rfl) ?_
        refine lv_iconst (v := 2) hx hb dX1_begin_9 (by decide) ?_
        refine lv_iand hx hb dX1_begin_10 ?_
        refine xk_as (nI (2 * n % 4)) (by rcases (show n = 0 ∨ n = 1 ∨ n = 2 ∨ n = 3 by omega) with rfl | rfl | rfl | rfl <;> decide) ?_
        refine lv_istore_n (lv' := [(3, .int (nI (2 * n % 4))), (0, .ref h2), (1, .ref h3), (2, .int (nI (2 * n)))]) hx hb dX1_begin_11 rfl hl (by decide) rfl (fun ls hl => ?_)
        refine lv_aload_n hx hb dX1_begin_12 rfl (lv_at hl 1 rfl) ?_
        refine va_get (D := D) (ci := 1) (v := .ref h7) (C := RX1) (T := TX1) (N := 4) hx hb hts hi_1 hown hK hP 0 rfl rfl 0 (by decide) fl_7 (fun _ h9 => h9) rfl dX1_begin_13 ?_
        refine lv_iload_n hx hb dX1_begin_16 rfl (lv_at hl 3 rfl) ?_
        refine va_gets hx hb hZ_tFIRST hS hown fl_23 (fun _ h9 => h9) dX1_begin_17 ?_
        refine lv_iload_n hx hb dX1_begin_20 rfl (lv_at hl 3 rfl) ?_
        refine va_ti hx hb hT_tFIRST hS (vp_in_nI (n := (2 * n)) (N := 8) (by omega) (by decide)) (v := .int (xs_FR (2 * n))) (by rw [nI_clamp (by omega)]) dX1_begin_21 ?_
        refine lv_aload_n hx hb dX1_begin_22 rfl (lv_at hl 2 rfl) ?_
        refine lv_iload_n hx hb dX1_begin_23 rfl (lv_at hl 0 rfl) ?_
        refine lv_iconst (v := 1) hx hb dX1_begin_24 (by decide) ?_
        refine xk_iaddN hx hb (2 * n % 4) 1 ((2 * n % 4) + 1) rfl rfl (by omega) dX1_begin_25 ?_
        refine xk_iald hx hb hK hP 2 0 rfl rfl ((2 * n % 4) + 1) rfl (by omega) (by decide) dX1_begin_26 ?_
        refine lv_ixor hx hb dX1_begin_27 ?_
        refine xk_iast hx hb hK hP hD hS 1 0 rfl rfl (2 * n) rfl (by omega) (by decide) dX1_begin_28 (fun H locs hP hD hS => ?_)
        have hP : va_P D classes [(h2, .inr (1, [.ref h7, .int gh, .int gl, .int fl])), (h7, .inl (cI, 8, .inl (upd (jc_first xs_FR key v n) (2 * n) ((xs_FR (2 * n)) ^^^ (key ((2 * n % 4) + 1)))))), (h3, .inl (cI, 4, .inl key))] H := hP
        have hD : va_D A [(h2, .inr (1, [.ref h7, .int gh, .int gl, .int fl])), (h7, .inl (cI, 8, .inl (upd (jc_first xs_FR key v n) (2 * n) ((xs_FR (2 * n)) ^^^ (key ((2 * n % 4) + 1)))))), (h3, .inl (cI, 4, .inl key))] := hD
        generalize eL1 : upd (jc_first xs_FR key v n) (2 * n) ((xs_FR (2 * n)) ^^^ (key ((2 * n % 4) + 1))) = L1 at hP hD
        refine lv_aload_n hx hb dX1_begin_29 rfl (lv_at hl 1 rfl) ?_
        refine va_get (D := D) (ci := 1) (v := .ref h7) (C := RX1) (T := TX1) (N := 4) hx hb hts hi_1 hown hK hP 0 rfl rfl 0 (by decide) fl_7 (fun _ h9 => h9) rfl dX1_begin_30 ?_
        refine lv_iload_n hx hb dX1_begin_33 rfl (lv_at hl 3 rfl) ?_
        refine lv_iconst (v := 1) hx hb dX1_begin_34 (by decide) ?_
        refine xk_iaddN hx hb (2 * n) 1 ((2 * n) + 1) rfl rfl (by omega) dX1_begin_35 ?_
        refine va_gets hx hb hZ_tFIRST hS hown fl_23 (fun _ h9 => h9) dX1_begin_36 ?_
        refine lv_iload_n hx hb dX1_begin_39 rfl (lv_at hl 3 rfl) ?_
        refine lv_iconst (v := 1) hx hb dX1_begin_40 (by decide) ?_
        refine xk_iaddN hx hb (2 * n) 1 ((2 * n) + 1) rfl rfl (by omega) dX1_begin_41 ?_
        refine va_ti hx hb hT_tFIRST hS (vp_in_nI (n := ((2 * n) + 1)) (N := 8) (by omega) (by decide)) (v := .int (xs_FR ((2 * n) + 1))) (by rw [nI_clamp (by omega)]) dX1_begin_42 ?_
        refine lv_aload_n hx hb dX1_begin_43 rfl (lv_at hl 2 rfl) ?_
        refine lv_iload_n hx hb dX1_begin_44 rfl (lv_at hl 0 rfl) ?_
        refine xk_iald hx hb hK hP 2 0 rfl rfl (2 * n % 4) rfl (by omega) (by decide) dX1_begin_45 ?_
        refine lv_ixor hx hb dX1_begin_46 ?_
        refine xk_iast hx hb hK hP hD hS 1 0 rfl rfl ((2 * n) + 1) rfl (by omega) (by decide) dX1_begin_47 (fun H locs hP hD hS => ?_)
        have hP : va_P D classes [(h2, .inr (1, [.ref h7, .int gh, .int gl, .int fl])), (h7, .inl (cI, 8, .inl (upd L1 ((2 * n) + 1) ((xs_FR ((2 * n) + 1)) ^^^ (key (2 * n % 4)))))), (h3, .inl (cI, 4, .inl key))] H := hP
        have hD : va_D A [(h2, .inr (1, [.ref h7, .int gh, .int gl, .int fl])), (h7, .inl (cI, 8, .inl (upd L1 ((2 * n) + 1) ((xs_FR ((2 * n) + 1)) ^^^ (key (2 * n % 4)))))), (h3, .inl (cI, 4, .inl key))] := hD
        generalize eL2 : upd L1 ((2 * n) + 1) ((xs_FR ((2 * n) + 1)) ^^^ (key (2 * n % 4))) = L2 at hP hD
        refine lv_iinc (v := nI (2 * (n + 1))) (lv' := [(2, .int (nI (2 * (n + 1)))), (3, .int (nI (2 * n % 4))), (0, .ref h2), (1, .ref h3)]) hx hb dX1_begin_48 hl (k := 3) rfl (xk_i2 (by omega)) (by decide) rfl (fun ls hl => ?_)
        refine lv_goto (tgt := 2) hx hb dX1_begin_51 (by decide) ?_
        subst eL1
        subst eL2
        exact ihloopA (n + 1) (by omega) _ _ _ hP hD hS (lv_sub hl [2, 3, 0] rfl)
  exact loopA 4 0 rfl _ _ _ hP hD hS (lv_sub hl [1, 2, 0] rfl)
