abbrev rm_X2_close_no : Room := { frames := 0, cells := 0, slots := 0, locals := 0 }
set_option maxHeartbeats 4000000 in
set_option maxRecDepth 100000 in
theorem c_X2_close_no (l : Launch) (D : va_G) (cI cL : ClassId) (sz : Nat) (h0 : Nat) (h1 : Nat) (h2 : Nat) (h3 : Nat) (rdy : Int32) (knd : Int32) (cnt : Int32) : xk_I l yX2_close wsX2_close rm_X2_close_no xk_0 D classes [(cI, .int), (cL, .long)] [.ref h0] [(h0, .inr (2, [.ref h1, .ref h2, .ref h3, .int rdy, .int 0, .int knd, .int cnt]))] [(h0, .inr (2, [.ref h1, .ref h2, .ref h3, .int rdy, .int 0, .int knd, .int cnt]))] (0) sz := by
  refine xk_entZ (cc := cX2_close) (maxL := 1) (by decide) rfl (Nat.le_of_ble_eq_true rfl) (Or.inl rfl) ?_
  intro p e s m args below meth co Q A ls hx hb hml hts hown hA hK hP hD hS hX ret hl
  have hl : lv_has ls 1 [(0, .ref h0)] := hl
  have hi_2 : ∀ w ∈ u_ws RX2 TX2 7, w ∈ wsX2_close := by decide +kernel
  have fl_31 := hts (.fieldLink RX2 31 "WideHash" "open" "Z") (by decide +kernel)
  have fl_34 := hts (.fieldLink RX2 34 "WideHash" "kind" "I") (by decide +kernel)
  have fl_19 := hts (.fieldLink RX2 19 "WideHash" "sip" "LWideHash$Sip;") (by decide +kernel)
  have fl_38 := hts (.fieldLink RX2 38 "WideHash" "count" "I") (by decide +kernel)
  have fl_10 := hts (.fieldLink RX2 10 "WideHash" "sha" "LWideHash$Sha;") (by decide +kernel)
  refine lv_aload_n hx hb dX2_close_0 rfl (lv_at hl 0 rfl) ?_
  refine va_get (D := D) (ci := 2) (v := .int 0) (C := RX2) (T := TX2) (N := 7) hx hb hts hi_2 hown hK hP 0 rfl rfl 4 (by decide) fl_31 (fun _ h9 => h9) rfl dX2_close_1 ?_
  refine lv_if_ne (tgt := 9) hx hb dX2_close_4 (by decide) (fun c => ?_) (fun c => ?_)
  · exact absurd rfl c
  · refine lv_iconst (v := 0) hx hb dX2_close_7 (by decide) ?_
    exact ret _ _ _ _ _ rfl hP hD hS dX2_close_8
abbrev rm_X2_close_p : Room := { frames := 7, cells := 0, slots := 0, locals := 156 }
set_option maxHeartbeats 4000000 in
set_option maxRecDepth 100000 in
theorem c_X2_close_p (l : Launch) (D : va_G) (cI cL : ClassId) (sz : Nat) (h0 : Nat) (h1 : Nat) (h2 : Nat) (h3 : Nat) (h7 : Nat) (rdy : Int32) (cnt : Int32) (S : xp_S) (hk : S.2.2.2 < 8) : xk_I l yX2_close wsX2_close rm_X2_close_p xs_X D classes [(cI, .int), (cL, .long)] [.ref h0] [(h0, .inr (2, [.ref h1, .ref h2, .ref h3, .int rdy, .int 1, .int 3, .int cnt])), (h2, .inr (1, [.ref h7, .int S.2.1, .int S.2.2.1, .int (nI S.2.2.2)])), (h7, .inl (cI, 8, .inl S.1))] [(h0, .inr (2, [.ref h1, .ref h2, .ref h3, .int rdy, .int 0, .int 3, .int cnt])), (h2, .inr (1, [.ref h7, .int ((jc_pend S cnt).2.1), .int ((jc_pend S cnt).2.2.1), .int (nI ((jc_pend S cnt).2.2.2))])), (h7, .inl (cI, 8, .inl ((jc_pend S cnt).1)))] (1) sz := by
  refine xk_entZ (cc := cX2_close) (maxL := 1) (by decide) rfl (Nat.le_of_ble_eq_true rfl) (Or.inr rfl) ?_
  intro p e s m args below meth co Q A ls hx hb hml hts hown hA hK hP hD hS hX ret hl
  have hl : lv_has ls 1 [(0, .ref h0)] := hl
  have hi_1 : ∀ w ∈ u_ws RX1 TX1 4, w ∈ wsX2_close := by decide +kernel
  have hi_2 : ∀ w ∈ u_ws RX2 TX2 7, w ∈ wsX2_close := by decide +kernel
  have fl_31 := hts (.fieldLink RX2 31 "WideHash" "open" "Z") (by decide +kernel)
  have fl_34 := hts (.fieldLink RX2 34 "WideHash" "kind" "I") (by decide +kernel)
  have fl_19 := hts (.fieldLink RX2 19 "WideHash" "sip" "LWideHash$Sip;") (by decide +kernel)
  have fl_38 := hts (.fieldLink RX2 38 "WideHash" "count" "I") (by decide +kernel)
  have fl_10 := hts (.fieldLink RX2 10 "WideHash" "sha" "LWideHash$Sha;") (by decide +kernel)
  refine lv_aload_n hx hb dX2_close_0 rfl (lv_at hl 0 rfl) ?_
  refine va_get (D := D) (ci := 2) (v := .int 1) (C := RX2) (T := TX2) (N := 7) hx hb hts hi_2 hown hK hP 0 rfl rfl 4 (by decide) fl_31 (fun _ h9 => h9) rfl dX2_close_1 ?_
  refine lv_if_ne (tgt := 9) hx hb dX2_close_4 (by decide) (fun c => ?_) (fun c => ?_)
  · refine lv_aload_n hx hb dX2_close_9 rfl (lv_at hl 0 rfl) ?_
    refine va_get (D := D) (ci := 2) (v := .int 3) (C := RX2) (T := TX2) (N := 7) hx hb hts hi_2 hown hK hP 0 rfl rfl 5 (by decide) fl_34 (fun _ h9 => h9) rfl dX2_close_10 ?_
    refine lv_iconst (v := 3) hx hb dX2_close_13 (by decide) ?_
    refine lv_icmp_ne (tgt := 31) hx hb dX2_close_14 (by decide) (fun c => ?_) (fun c => ?_)
    · exact absurd rfl c
    · refine lv_aload_n hx hb dX2_close_17 rfl (lv_at hl 0 rfl) ?_
      refine va_get (D := D) (ci := 2) (v := .ref h2) (C := RX2) (T := TX2) (N := 7) hx hb hts hi_2 hown hK hP 0 rfl rfl 1 (by decide) fl_19 (fun _ h9 => h9) rfl dX2_close_18 ?_
      refine lv_aload_n hx hb dX2_close_21 rfl (lv_at hl 0 rfl) ?_
      refine va_get (D := D) (ci := 2) (v := .int cnt) (C := RX2) (T := TX2) (N := 7) hx hb hts hi_2 hown hK hP 0 rfl rfl 6 (by decide) fl_38 (fun _ h9 => h9) rfl dX2_close_22 ?_
      refine xk_goV (wr := [(h0, .inr (2, [.ref h1, .ref h2, .ref h3, .int rdy, .int 1, .int 3, .int cnt]))]) (w2 := [(h0, .inr (2, [.ref h1, .ref h2, .ref h3, .int rdy, .int 1, .int 3, .int cnt])), (h2, .inr (1, [.ref h7, .int ((jc_pend S cnt).2.1), .int ((jc_pend S cnt).2.2.1), .int (nI ((jc_pend S cnt).2.2.2))])), (h7, .inl (cI, 8, .inl ((jc_pend S cnt).1)))]) (va_runV (As := [.int cnt]) (rest := []) ⟨hx, hb, hml, hown, hts⟩ (c_X1_end l D cI cL s.heap.size h2 h7 S cnt (by omega)) (cwV 1 hts gX2_close_X1_end rfl rfl rfl (by decide +kernel) ⟨Nat.le_of_ble_eq_true rfl, Nat.le_of_ble_eq_true rfl⟩) ⟨xk_blind xs_X_ok, va_recv hK hP (ci := 1) (q0 := 1) rfl rfl, xk_at xs_X_ok hX hP hD hK hS hA [1, 2] rfl (by decide) rfl⟩ rfl rfl hl.1 rfl (lv_room (Nat.le_of_ble_eq_true rfl)) dX2_close_25 ⟨Nat.le_of_ble_eq_true rfl, Nat.le_of_ble_eq_true rfl⟩) hP hD hS hA [1, 2] [0] [0, 1, 2] rfl rfl (by decide) (by decide) rfl (by decide) rfl (fun H locs hP hD hS => ?_)
      refine lv_goto (tgt := 42) hx hb dX2_close_28 (by decide) ?_
      refine lv_aload_n hx hb dX2_close_42 rfl (lv_at hl 0 rfl) ?_
      refine lv_iconst (v := 0) hx hb dX2_close_43 (by decide) ?_
      refine va_put (D := D) (ci := 2) (v := .int 0) (ty := .boolean) (C := RX2) (T := TX2) (N := 7) hx hb hts hi_2 tyX2 tyX2_ok nmX2 hown hK hP hD hS 0 rfl rfl 4 (by decide) fl_31 (fun _ h9 => h9) rfl (by decide +kernel) rfl rfl (Nat.le_of_ble_eq_true rfl) dX2_close_44 (fun H locs hP hD hS => ?_)
      have hP : va_P D classes [(h0, .inr (2, [.ref h1, .ref h2, .ref h3, .int rdy, .int 0, .int 3, .int cnt])), (h2, .inr (1, [.ref h7, .int ((jc_pend S cnt).2.1), .int ((jc_pend S cnt).2.2.1), .int (nI ((jc_pend S cnt).2.2.2))])), (h7, .inl (cI, 8, .inl ((jc_pend S cnt).1)))] H := hP
      have hD : va_D A [(h0, .inr (2, [.ref h1, .ref h2, .ref h3, .int rdy, .int 0, .int 3, .int cnt])), (h2, .inr (1, [.ref h7, .int ((jc_pend S cnt).2.1), .int ((jc_pend S cnt).2.2.1), .int (nI ((jc_pend S cnt).2.2.2))])), (h7, .inl (cI, 8, .inl ((jc_pend S cnt).1)))] := hD
      refine lv_iconst (v := 1) hx hb dX2_close_47 (by decide) ?_
      exact ret _ _ _ _ _ rfl hP hD hS dX2_close_48
  · exact absurd c (by decide)
abbrev rm_X2_close_s : Room := { frames := 6, cells := 0, slots := 0, locals := 137 }
set_option maxHeartbeats 4000000 in
set_option maxRecDepth 100000 in
theorem c_X2_close_s (l : Launch) (D : va_G) (cI cL : ClassId) (sz : Nat) (h0 : Nat) (h1 : Nat) (h2 : Nat) (h3 : Nat) (h4 : Nat) (h5 : Nat) (h6 : Nat) (rdy : Int32) (knd : Int32) (cnt : Int32) (S : xs_S) (hkd : ¬ knd = 3) (hk : S.2.2.2 < 128) : xk_I l yX2_close wsX2_close rm_X2_close_s xs_X D classes [(cI, .int), (cL, .long)] [.ref h0] [(h0, .inr (2, [.ref h1, .ref h2, .ref h3, .int rdy, .int 1, .int knd, .int cnt])), (h1, .inr (0, [.ref h4, .ref h5, .ref h6, .int (nI S.2.2.2)])), (h4, .inl (cI, 16, .inl S.1)), (h5, .inl (cI, 16, .inl S.2.1)), (h6, .inl (cI, 160, .inl S.2.2.1))] [(h0, .inr (2, [.ref h1, .ref h2, .ref h3, .int rdy, .int 0, .int knd, .int cnt])), (h1, .inr (0, [.ref h4, .ref h5, .ref h6, .int (nI ((jc_end xs_CR S cnt).2.2.2))])), (h4, .inl (cI, 16, .inl ((jc_end xs_CR S cnt).1))), (h5, .inl (cI, 16, .inl ((jc_end xs_CR S cnt).2.1))), (h6, .inl (cI, 160, .inl ((jc_end xs_CR S cnt).2.2.1)))] (1) sz := by
  refine xk_entZ (cc := cX2_close) (maxL := 1) (by decide) rfl (Nat.le_of_ble_eq_true rfl) (Or.inr rfl) ?_
  intro p e s m args below meth co Q A ls hx hb hml hts hown hA hK hP hD hS hX ret hl
  have hl : lv_has ls 1 [(0, .ref h0)] := hl
  have hi_0 : ∀ w ∈ u_ws RX0 TX0 4, w ∈ wsX2_close := by decide +kernel
  have hi_2 : ∀ w ∈ u_ws RX2 TX2 7, w ∈ wsX2_close := by decide +kernel
  have fl_31 := hts (.fieldLink RX2 31 "WideHash" "open" "Z") (by decide +kernel)
  have fl_34 := hts (.fieldLink RX2 34 "WideHash" "kind" "I") (by decide +kernel)
  have fl_19 := hts (.fieldLink RX2 19 "WideHash" "sip" "LWideHash$Sip;") (by decide +kernel)
  have fl_38 := hts (.fieldLink RX2 38 "WideHash" "count" "I") (by decide +kernel)
  have fl_10 := hts (.fieldLink RX2 10 "WideHash" "sha" "LWideHash$Sha;") (by decide +kernel)
  refine lv_aload_n hx hb dX2_close_0 rfl (lv_at hl 0 rfl) ?_
  refine va_get (D := D) (ci := 2) (v := .int 1) (C := RX2) (T := TX2) (N := 7) hx hb hts hi_2 hown hK hP 0 rfl rfl 4 (by decide) fl_31 (fun _ h9 => h9) rfl dX2_close_1 ?_
  refine lv_if_ne (tgt := 9) hx hb dX2_close_4 (by decide) (fun c => ?_) (fun c => ?_)
  · refine lv_aload_n hx hb dX2_close_9 rfl (lv_at hl 0 rfl) ?_
    refine va_get (D := D) (ci := 2) (v := .int knd) (C := RX2) (T := TX2) (N := 7) hx hb hts hi_2 hown hK hP 0 rfl rfl 5 (by decide) fl_34 (fun _ h9 => h9) rfl dX2_close_10 ?_
    refine lv_iconst (v := 3) hx hb dX2_close_13 (by decide) ?_
    refine lv_icmp_ne (tgt := 31) hx hb dX2_close_14 (by decide) (fun c => ?_) (fun c => ?_)
    · refine lv_aload_n hx hb dX2_close_31 rfl (lv_at hl 0 rfl) ?_
      refine va_get (D := D) (ci := 2) (v := .ref h1) (C := RX2) (T := TX2) (N := 7) hx hb hts hi_2 hown hK hP 0 rfl rfl 0 (by decide) fl_10 (fun _ h9 => h9) rfl dX2_close_32 ?_
      refine lv_aload_n hx hb dX2_close_35 rfl (lv_at hl 0 rfl) ?_
      refine va_get (D := D) (ci := 2) (v := .int cnt) (C := RX2) (T := TX2) (N := 7) hx hb hts hi_2 hown hK hP 0 rfl rfl 6 (by decide) fl_38 (fun _ h9 => h9) rfl dX2_close_36 ?_
      refine xk_goV (wr := [(h0, .inr (2, [.ref h1, .ref h2, .ref h3, .int rdy, .int 1, .int knd, .int cnt]))]) (w2 := [(h0, .inr (2, [.ref h1, .ref h2, .ref h3, .int rdy, .int 1, .int knd, .int cnt])), (h1, .inr (0, [.ref h4, .ref h5, .ref h6, .int (nI ((jc_end xs_CR S cnt).2.2.2))])), (h4, .inl (cI, 16, .inl ((jc_end xs_CR S cnt).1))), (h5, .inl (cI, 16, .inl ((jc_end xs_CR S cnt).2.1))), (h6, .inl (cI, 160, .inl ((jc_end xs_CR S cnt).2.2.1)))]) (va_runV (As := [.int cnt]) (rest := []) ⟨hx, hb, hml, hown, hts⟩ (c_X0_end l D cI cL s.heap.size h1 h4 h5 h6 S cnt (by omega)) (cwV 1 hts gX2_close_X0_end rfl rfl rfl (by decide +kernel) ⟨Nat.le_of_ble_eq_true rfl, Nat.le_of_ble_eq_true rfl⟩) ⟨xk_blind xs_X_ok, va_recv hK hP (ci := 0) (q0 := 1) rfl rfl, xk_at xs_X_ok hX hP hD hK hS hA [1, 2, 3, 4] rfl (by decide) rfl⟩ rfl rfl hl.1 rfl (lv_room (Nat.le_of_ble_eq_true rfl)) dX2_close_39 ⟨Nat.le_of_ble_eq_true rfl, Nat.le_of_ble_eq_true rfl⟩) hP hD hS hA [1, 2, 3, 4] [0] [0, 1, 2, 3, 4] rfl rfl (by decide) (by decide) rfl (by decide) rfl (fun H locs hP hD hS => ?_)
      refine lv_aload_n hx hb dX2_close_42 rfl (lv_at hl 0 rfl) ?_
      refine lv_iconst (v := 0) hx hb dX2_close_43 (by decide) ?_
      refine va_put (D := D) (ci := 2) (v := .int 0) (ty := .boolean) (C := RX2) (T := TX2) (N := 7) hx hb hts hi_2 tyX2 tyX2_ok nmX2 hown hK hP hD hS 0 rfl rfl 4 (by decide) fl_31 (fun _ h9 => h9) rfl (by decide +kernel) rfl rfl (Nat.le_of_ble_eq_true rfl) dX2_close_44 (fun H locs hP hD hS => ?_)
      have hP : va_P D classes [(h0, .inr (2, [.ref h1, .ref h2, .ref h3, .int rdy, .int 0, .int knd, .int cnt])), (h1, .inr (0, [.ref h4, .ref h5, .ref h6, .int (nI ((jc_end xs_CR S cnt).2.2.2))])), (h4, .inl (cI, 16, .inl ((jc_end xs_CR S cnt).1))), (h5, .inl (cI, 16, .inl ((jc_end xs_CR S cnt).2.1))), (h6, .inl (cI, 160, .inl ((jc_end xs_CR S cnt).2.2.1)))] H := hP
      have hD : va_D A [(h0, .inr (2, [.ref h1, .ref h2, .ref h3, .int rdy, .int 0, .int knd, .int cnt])), (h1, .inr (0, [.ref h4, .ref h5, .ref h6, .int (nI ((jc_end xs_CR S cnt).2.2.2))])), (h4, .inl (cI, 16, .inl ((jc_end xs_CR S cnt).1))), (h5, .inl (cI, 16, .inl ((jc_end xs_CR S cnt).2.1))), (h6, .inl (cI, 160, .inl ((jc_end xs_CR S cnt).2.2.1)))] := hD
      refine lv_iconst (v := 1) hx hb dX2_close_47 (by decide) ?_
      exact ret _ _ _ _ _ rfl hP hD hS dX2_close_48
    · exact absurd c hkd
  · exact absurd c (by decide)
abbrev rm_X2_word_no : Room := { frames := 1, cells := 0, slots := 0, locals := 20 }
set_option maxHeartbeats 4000000 in
set_option maxRecDepth 100000 in
theorem c_X2_word_no (l : Launch) (D : va_G) (cI cL : ClassId) (sz : Nat) (h0 : Nat) (h1 : Nat) (h2 : Nat) (h3 : Nat) (rdy : Int32) (opn : Int32) (knd : Int32) (cnt : Int32) (i : Int32) (hno : ¬ opn = 0 ∨ i < 0 ∨ ¬ i < jc_words knd) : xk_I l yX2_word wsX2_word rm_X2_word_no xk_0 D classes [(cI, .int), (cL, .long)] [.ref h0, .int i] [(h0, .inr (2, [.ref h1, .ref h2, .ref h3, .int rdy, .int opn, .int knd, .int cnt]))] [(h0, .inr (2, [.ref h1, .ref h2, .ref h3, .int rdy, .int opn, .int knd, .int cnt]))] (0) sz := by
  refine xk_entI (cc := cX2_word) (maxL := 2) (by decide) rfl (Nat.le_of_ble_eq_true rfl) ?_
  intro p e s m args below meth co Q A ls hx hb hml hts hown hA hK hP hD hS hX ret hl
  have hl : lv_has ls 2 [(0, .ref h0), (1, .int i)] := hl
  have hi_2 : ∀ w ∈ u_ws RX2 TX2 7, w ∈ wsX2_word := by decide +kernel
  have fl_31 := hts (.fieldLink RX2 31 "WideHash" "open" "Z") (by decide +kernel)
  have fl_34 := hts (.fieldLink RX2 34 "WideHash" "kind" "I") (by decide +kernel)
  have fl_19 := hts (.fieldLink RX2 19 "WideHash" "sip" "LWideHash$Sip;") (by decide +kernel)
  have fl_10 := hts (.fieldLink RX2 10 "WideHash" "sha" "LWideHash$Sha;") (by decide +kernel)
  refine lv_aload_n hx hb dX2_word_0 rfl (lv_at hl 0 rfl) ?_
  refine va_get (D := D) (ci := 2) (v := .int opn) (C := RX2) (T := TX2) (N := 7) hx hb hts hi_2 hown hK hP 0 rfl rfl 4 (by decide) fl_31 (fun _ h9 => h9) rfl dX2_word_1 ?_
  refine lv_if_ne (tgt := 22) hx hb dX2_word_4 (by decide) (fun c1 => ?_) (fun c1 => ?_)
  · refine lv_iconst (v := 0) hx hb dX2_word_22 (by decide) ?_
    exact ret _ _ _ _ _ rfl hP hD hS dX2_word_23
  · refine lv_iload_n hx hb dX2_word_7 rfl (lv_at hl 1 rfl) ?_
    refine lv_if_lt (tgt := 22) hx hb dX2_word_8 (by decide) (fun c2 => ?_) (fun c2 => ?_)
    · refine lv_iconst (v := 0) hx hb dX2_word_22 (by decide) ?_
      exact ret _ _ _ _ _ rfl hP hD hS dX2_word_23
    · refine lv_iload_n hx hb dX2_word_11 rfl (lv_at hl 1 rfl) ?_
      refine lv_aload_n hx hb dX2_word_12 rfl (lv_at hl 0 rfl) ?_
      refine va_get (D := D) (ci := 2) (v := .int knd) (C := RX2) (T := TX2) (N := 7) hx hb hts hi_2 hown hK hP 0 rfl rfl 5 (by decide) fl_34 (fun _ h9 => h9) rfl dX2_word_13 ?_
      refine xk_goPI (r := (jc_words knd)) (va_runS (As := [.int knd]) (rest := [.int i]) ⟨hx, hb, hml, hown, hts⟩ (c_X2_wordsOf l D knd) (va_cwS 1 hts gX2_word_X2_wordsOf rfl rfl rfl (by decide +kernel) ⟨Nat.le_of_ble_eq_true rfl, Nat.le_of_ble_eq_true rfl⟩) preEq rfl rfl hl.1 rfl (lv_room (Nat.le_of_ble_eq_true rfl)) dX2_word_16 ⟨Nat.le_of_ble_eq_true rfl, Nat.le_of_ble_eq_true rfl⟩) hP hS (fun H locs hP hS => ?_)
      refine lv_icmp_lt (tgt := 24) hx hb dX2_word_19 (by decide) (fun c3 => ?_) (fun c3 => ?_)
      · exact hno.elim (fun h => absurd c1 h) (fun h => h.elim (fun h => absurd h c2) (fun h => absurd c3 h))
      · refine lv_iconst (v := 0) hx hb dX2_word_22 (by decide) ?_
        exact ret _ _ _ _ _ rfl hP hD hS dX2_word_23
abbrev rm_X2_word_p : Room := { frames := 1, cells := 0, slots := 0, locals := 21 }
set_option maxHeartbeats 4000000 in
set_option maxRecDepth 100000 in
theorem c_X2_word_p (l : Launch) (D : va_G) (cI cL : ClassId) (sz : Nat) (h0 : Nat) (h1 : Nat) (h2 : Nat) (h3 : Nat) (h7 : Nat) (rdy : Int32) (cnt : Int32) (gh : Int32) (gl : Int32) (fl : Int32) (v : Nat → Int32) (i : Nat) (hi : i < 2) (hw : nI i < jc_words 3) : xk_I l yX2_word wsX2_word rm_X2_word_p xk_0 D classes [(cI, .int), (cL, .long)] [.ref h0, .int (nI i)] [(h0, .inr (2, [.ref h1, .ref h2, .ref h3, .int rdy, .int 0, .int 3, .int cnt])), (h2, .inr (1, [.ref h7, .int gh, .int gl, .int fl])), (h7, .inl (cI, 8, .inl v))] [(h0, .inr (2, [.ref h1, .ref h2, .ref h3, .int rdy, .int 0, .int 3, .int cnt])), (h2, .inr (1, [.ref h7, .int gh, .int gl, .int fl])), (h7, .inl (cI, 8, .inl v))] (jc_pword v i) sz := by
  refine xk_entI (cc := cX2_word) (maxL := 2) (by decide) rfl (Nat.le_of_ble_eq_true rfl) ?_
  intro p e s m args below meth co Q A ls hx hb hml hts hown hA hK hP hD hS hX ret hl
  have hl : lv_has ls 2 [(0, .ref h0), (1, .int (nI i))] := hl
  have hi_1 : ∀ w ∈ u_ws RX1 TX1 4, w ∈ wsX2_word := by decide +kernel
  have hi_2 : ∀ w ∈ u_ws RX2 TX2 7, w ∈ wsX2_word := by decide +kernel
  have fl_31 := hts (.fieldLink RX2 31 "WideHash" "open" "Z") (by decide +kernel)
  have fl_34 := hts (.fieldLink RX2 34 "WideHash" "kind" "I") (by decide +kernel)
  have fl_19 := hts (.fieldLink RX2 19 "WideHash" "sip" "LWideHash$Sip;") (by decide +kernel)
  have fl_10 := hts (.fieldLink RX2 10 "WideHash" "sha" "LWideHash$Sha;") (by decide +kernel)
  refine lv_aload_n hx hb dX2_word_0 rfl (lv_at hl 0 rfl) ?_
  refine va_get (D := D) (ci := 2) (v := .int 0) (C := RX2) (T := TX2) (N := 7) hx hb hts hi_2 hown hK hP 0 rfl rfl 4 (by decide) fl_31 (fun _ h9 => h9) rfl dX2_word_1 ?_
  refine lv_if_ne (tgt := 22) hx hb dX2_word_4 (by decide) (fun c => ?_) (fun c => ?_)
  · exact absurd rfl c
  · refine lv_iload_n hx hb dX2_word_7 rfl (lv_at hl 1 rfl) ?_
    refine lv_if_lt (tgt := 22) hx hb dX2_word_8 (by decide) (fun c => ?_) (fun c => ?_)
    · exact absurd c (nI_pos (by omega))
    · refine lv_iload_n hx hb dX2_word_11 rfl (lv_at hl 1 rfl) ?_
      refine lv_aload_n hx hb dX2_word_12 rfl (lv_at hl 0 rfl) ?_
      refine va_get (D := D) (ci := 2) (v := .int 3) (C := RX2) (T := TX2) (N := 7) hx hb hts hi_2 hown hK hP 0 rfl rfl 5 (by decide) fl_34 (fun _ h9 => h9) rfl dX2_word_13 ?_
      refine xk_goPI (r := (jc_words 3)) (va_runS (As := [.int 3]) (rest := [.int (nI i)]) ⟨hx, hb, hml, hown, hts⟩ (c_X2_wordsOf l D 3) (va_cwS 1 hts gX2_word_X2_wordsOf rfl rfl rfl (by decide +kernel) ⟨Nat.le_of_ble_eq_true rfl, Nat.le_of_ble_eq_true rfl⟩) preEq rfl rfl hl.1 rfl (lv_room (Nat.le_of_ble_eq_true rfl)) dX2_word_16 ⟨Nat.le_of_ble_eq_true rfl, Nat.le_of_ble_eq_true rfl⟩) hP hS (fun H locs hP hS => ?_)
      refine lv_icmp_lt (tgt := 24) hx hb dX2_word_19 (by decide) (fun c => ?_) (fun c => ?_)
      · refine lv_aload_n hx hb dX2_word_24 rfl (lv_at hl 0 rfl) ?_
        refine va_get (D := D) (ci := 2) (v := .int 3) (C := RX2) (T := TX2) (N := 7) hx hb hts hi_2 hown hK hP 0 rfl rfl 5 (by decide) fl_34 (fun _ h9 => h9) rfl dX2_word_25 ?_
        refine lv_iconst (v := 3) hx hb dX2_word_28 (by decide) ?_
        refine lv_icmp_ne (tgt := 43) hx hb dX2_word_29 (by decide) (fun c => ?_) (fun c => ?_)
        · exact absurd rfl c
        · refine lv_aload_n hx hb dX2_word_32 rfl (lv_at hl 0 rfl) ?_
          refine va_get (D := D) (ci := 2) (v := .ref h2) (C := RX2) (T := TX2) (N := 7) hx hb hts hi_2 hown hK hP 0 rfl rfl 1 (by decide) fl_19 (fun _ h9 => h9) rfl dX2_word_33 ?_
          refine lv_iload_n hx hb dX2_word_36 rfl (lv_at hl 1 rfl) ?_
          refine xk_goI (r := (jc_pword v i)) (wr := [(h0, .inr (2, [.ref h1, .ref h2, .ref h3, .int rdy, .int 0, .int 3, .int cnt]))]) (w2 := [(h0, .inr (2, [.ref h1, .ref h2, .ref h3, .int rdy, .int 0, .int 3, .int cnt])), (h2, .inr (1, [.ref h7, .int gh, .int gl, .int fl])), (h7, .inl (cI, 8, .inl v))]) (va_runV (As := [.int (nI i)]) (rest := []) ⟨hx, hb, hml, hown, hts⟩ (c_X1_wordAt l D cI cL H.size h2 h7 gh gl fl v i (by omega)) (cwV 1 hts gX2_word_X1_wordAt rfl rfl rfl (by decide +kernel) ⟨Nat.le_of_ble_eq_true rfl, Nat.le_of_ble_eq_true rfl⟩) ⟨xk_blind xk_0_ok, va_recv hK hP (ci := 1) (q0 := 1) rfl rfl, xk_at xk_0_ok trivial hP hD hK hS hA [1, 2] rfl (by decide) rfl⟩ rfl rfl hl.1 rfl (lv_room (Nat.le_of_ble_eq_true rfl)) dX2_word_37 ⟨Nat.le_of_ble_eq_true rfl, Nat.le_of_ble_eq_true rfl⟩) hP hD hS hA [1, 2] [0] [0, 1, 2] rfl rfl (by decide) (by decide) rfl (by decide) rfl (fun H locs hP hD hS => ?_)
          refine lv_goto (tgt := 51) hx hb dX2_word_40 (by decide) ?_
          exact ret _ _ _ _ _ rfl hP hD hS dX2_word_51
      · exact absurd hw c
abbrev rm_X2_word_s : Room := { frames := 1, cells := 0, slots := 0, locals := 21 }
set_option maxHeartbeats 4000000 in
set_option maxRecDepth 100000 in
theorem c_X2_word_s (l : Launch) (D : va_G) (cI cL : ClassId) (sz : Nat) (h0 : Nat) (h1 : Nat) (h2 : Nat) (h3 : Nat) (h4 : Nat) (h5 : Nat) (h6 : Nat) (rdy : Int32) (knd : Int32) (cnt : Int32) (fl : Int32) (tot : Nat → Int32) (i : Nat) (hkd : ¬ knd = 3) (hi : i < 16) (hw : nI i < jc_words knd) : xk_I l yX2_word wsX2_word rm_X2_word_s xk_0 D classes [(cI, .int), (cL, .long)] [.ref h0, .int (nI i)] [(h0, .inr (2, [.ref h1, .ref h2, .ref h3, .int rdy, .int 0, .int knd, .int cnt])), (h1, .inr (0, [.ref h4, .ref h5, .ref h6, .int fl])), (h4, .inl (cI, 16, .inl tot))] [(h0, .inr (2, [.ref h1, .ref h2, .ref h3, .int rdy, .int 0, .int knd, .int cnt])), (h1, .inr (0, [.ref h4, .ref h5, .ref h6, .int fl])), (h4, .inl (cI, 16, .inl tot))] (tot i) sz := by
  refine xk_entI (cc := cX2_word) (maxL := 2) (by decide) rfl (Nat.le_of_ble_eq_true rfl) ?_
  intro p e s m args below meth co Q A ls hx hb hml hts hown hA hK hP hD hS hX ret hl
  have hl : lv_has ls 2 [(0, .ref h0), (1, .int (nI i))] := hl
  have hi_0 : ∀ w ∈ u_ws RX0 TX0 4, w ∈ wsX2_word := by decide +kernel
  have hi_2 : ∀ w ∈ u_ws RX2 TX2 7, w ∈ wsX2_word := by decide +kernel
  have fl_31 := hts (.fieldLink RX2 31 "WideHash" "open" "Z") (by decide +kernel)
  have fl_34 := hts (.fieldLink RX2 34 "WideHash" "kind" "I") (by decide +kernel)
  have fl_19 := hts (.fieldLink RX2 19 "WideHash" "sip" "LWideHash$Sip;") (by decide +kernel)
  have fl_10 := hts (.fieldLink RX2 10 "WideHash" "sha" "LWideHash$Sha;") (by decide +kernel)
  refine lv_aload_n hx hb dX2_word_0 rfl (lv_at hl 0 rfl) ?_
  refine va_get (D := D) (ci := 2) (v := .int 0) (C := RX2) (T := TX2) (N := 7) hx hb hts hi_2 hown hK hP 0 rfl rfl 4 (by decide) fl_31 (fun _ h9 => h9) rfl dX2_word_1 ?_
  refine lv_if_ne (tgt := 22) hx hb dX2_word_4 (by decide) (fun c => ?_) (fun c => ?_)
  · exact absurd rfl c
  · refine lv_iload_n hx hb dX2_word_7 rfl (lv_at hl 1 rfl) ?_
    refine lv_if_lt (tgt := 22) hx hb dX2_word_8 (by decide) (fun c => ?_) (fun c => ?_)
    · exact absurd c (nI_pos (by omega))
    · refine lv_iload_n hx hb dX2_word_11 rfl (lv_at hl 1 rfl) ?_
      refine lv_aload_n hx hb dX2_word_12 rfl (lv_at hl 0 rfl) ?_
      refine va_get (D := D) (ci := 2) (v := .int knd) (C := RX2) (T := TX2) (N := 7) hx hb hts hi_2 hown hK hP 0 rfl rfl 5 (by decide) fl_34 (fun _ h9 => h9) rfl dX2_word_13 ?_
      refine xk_goPI (r := (jc_words knd)) (va_runS (As := [.int knd]) (rest := [.int (nI i)]) ⟨hx, hb, hml, hown, hts⟩ (c_X2_wordsOf l D knd) (va_cwS 1 hts gX2_word_X2_wordsOf rfl rfl rfl (by decide +kernel) ⟨Nat.le_of_ble_eq_true rfl, Nat.le_of_ble_eq_true rfl⟩) preEq rfl rfl hl.1 rfl (lv_room (Nat.le_of_ble_eq_true rfl)) dX2_word_16 ⟨Nat.le_of_ble_eq_true rfl, Nat.le_of_ble_eq_true rfl⟩) hP hS (fun H locs hP hS => ?_)
      refine lv_icmp_lt (tgt := 24) hx hb dX2_word_19 (by decide) (fun c => ?_) (fun c => ?_)
      · refine lv_aload_n hx hb dX2_word_24 rfl (lv_at hl 0 rfl) ?_
        refine va_get (D := D) (ci := 2) (v := .int knd) (C := RX2) (T := TX2) (N := 7) hx hb hts hi_2 hown hK hP 0 rfl rfl 5 (by decide) fl_34 (fun _ h9 => h9) rfl dX2_word_25 ?_
        refine lv_iconst (v := 3) hx hb dX2_word_28 (by decide) ?_
        refine lv_icmp_ne (tgt := 43) hx hb dX2_word_29 (by decide) (fun c => ?_) (fun c => ?_)
        · refine lv_aload_n hx hb dX2_word_43 rfl (lv_at hl 0 rfl) ?_
          refine va_get (D := D) (ci := 2) (v := .ref h1) (C := RX2) (T := TX2) (N := 7) hx hb hts hi_2 hown hK hP 0 rfl rfl 0 (by decide) fl_10 (fun _ h9 => h9) rfl dX2_word_44 ?_
          refine lv_iload_n hx hb dX2_word_47 rfl (lv_at hl 1 rfl) ?_
          refine xk_goI (r := (tot i)) (wr := [(h0, .inr (2, [.ref h1, .ref h2, .ref h3, .int rdy, .int 0, .int knd, .int cnt]))]) (w2 := [(h0, .inr (2, [.ref h1, .ref h2, .ref h3, .int rdy, .int 0, .int knd, .int cnt])), (h1, .inr (0, [.ref h4, .ref h5, .ref h6, .int fl])), (h4, .inl (cI, 16, .inl tot))]) (va_runV (As := [.int (nI i)]) (rest := []) ⟨hx, hb, hml, hown, hts⟩ (c_X0_wordAt l D cI cL H.size h1 h4 h5 h6 fl tot i (by omega)) (cwV 1 hts gX2_word_X0_wordAt rfl rfl rfl (by decide +kernel) ⟨Nat.le_of_ble_eq_true rfl, Nat.le_of_ble_eq_true rfl⟩) ⟨xk_blind xk_0_ok, va_recv hK hP (ci := 0) (q0 := 1) rfl rfl, xk_at xk_0_ok trivial hP hD hK hS hA [1, 2] rfl (by decide) rfl⟩ rfl rfl hl.1 rfl (lv_room (Nat.le_of_ble_eq_true rfl)) dX2_word_48 ⟨Nat.le_of_ble_eq_true rfl, Nat.le_of_ble_eq_true rfl⟩) hP hD hS hA [1, 2] [0] [0, 1, 2] rfl rfl (by decide) (by decide) rfl (by decide) rfl (fun H locs hP hD hS => ?_)
          exact ret _ _ _ _ _ rfl hP hD hS dX2_word_51
        · exact absurd c hkd
      · exact absurd hw c
abbrev rm_X2_length : Room := { frames := 0, cells := 0, slots := 0, locals := 0 }
set_option maxHeartbeats 4000000 in
set_option maxRecDepth 100000 in
theorem c_X2_length (l : Launch) (D : va_G) (cI cL : ClassId) (sz : Nat) (h0 : Nat) (h1 : Nat) (h2 : Nat) (h3 : Nat) (rdy : Int32) (opn : Int32) (knd : Int32) (cnt : Int32) : xk_I l yX2_length wsX2_length rm_X2_length xk_0 D classes [(cI, .int), (cL, .long)] [.ref h0] [(h0, .inr (2, [.ref h1, .ref h2, .ref h3, .int rdy, .int opn, .int knd, .int cnt]))] [(h0, .inr (2, [.ref h1, .ref h2, .ref h3, .int rdy, .int opn, .int knd, .int cnt]))] (cnt) sz := by
  refine xk_entI (cc := cX2_length) (maxL := 1) (by decide) rfl (Nat.le_of_ble_eq_true rfl) ?_
  intro p e s m args below meth co Q A ls hx hb hml hts hown hA hK hP hD hS hX ret hl
  have hl : lv_has ls 1 [(0, .ref h0)] := hl
  have hi_2 : ∀ w ∈ u_ws RX2 TX2 7, w ∈ wsX2_length := by decide +kernel
  have fl_38 := hts (.fieldLink RX2 38 "WideHash" "count" "I") (by decide +kernel)
  refine lv_aload_n hx hb dX2_length_0 rfl (lv_at hl 0 rfl) ?_
  refine va_get (D := D) (ci := 2) (v := .int cnt) (C := RX2) (T := TX2) (N := 7) hx hb hts hi_2 hown hK hP 0 rfl rfl 6 (by decide) fl_38 (fun _ h9 => h9) rfl dX2_length_1 ?_
  exact ret _ _ _ _ _ rfl hP hD hS dX2_length_4
abbrev rm_X2_state_a : Room := { frames := 0, cells := 0, slots := 0, locals := 0 }
set_option maxHeartbeats 4000000 in
set_option maxRecDepth 100000 in
theorem c_X2_state_a (l : Launch) (D : va_G) (cI cL : ClassId) (sz : Nat) (h0 : Nat) (h1 : Nat) (h2 : Nat) (h3 : Nat) (rdy : Int32) (opn : Int32) (knd : Int32) (cnt : Int32) (h : knd = 0 ∨ ¬ opn = 0) : xk_I l yX2_state wsX2_state rm_X2_state_a xk_0 D classes [(cI, .int), (cL, .long)] [.ref h0] [(h0, .inr (2, [.ref h1, .ref h2, .ref h3, .int rdy, .int opn, .int knd, .int cnt]))] [(h0, .inr (2, [.ref h1, .ref h2, .ref h3, .int rdy, .int opn, .int knd, .int cnt]))] (knd) sz := by
  refine xk_entI (cc := cX2_state) (maxL := 1) (by decide) rfl (Nat.le_of_ble_eq_true rfl) ?_
  intro p e s m args below meth co Q A ls hx hb hml hts hown hA hK hP hD hS hX ret hl
  have hl : lv_has ls 1 [(0, .ref h0)] := hl
  have hi_2 : ∀ w ∈ u_ws RX2 TX2 7, w ∈ wsX2_state := by decide +kernel
  have fl_34 := hts (.fieldLink RX2 34 "WideHash" "kind" "I") (by decide +kernel)
  have fl_31 := hts (.fieldLink RX2 31 "WideHash" "open" "Z") (by decide +kernel)
  refine lv_aload_n hx hb dX2_state_0 rfl (lv_at hl 0 rfl) ?_
  refine va_get (D := D) (ci := 2) (v := .int knd) (C := RX2) (T := TX2) (N := 7) hx hb hts hi_2 hown hK hP 0 rfl rfl 5 (by decide) fl_34 (fun _ h9 => h9) rfl dX2_state_1 ?_
  refine lv_if_eq (tgt := 14) hx hb dX2_state_4 (by decide) (fun c1 => ?_) (fun c1 => ?_)
  · refine lv_aload_n hx hb dX2_state_14 rfl (lv_at hl 0 rfl) ?_
    refine va_get (D := D) (ci := 2) (v := .int knd) (C := RX2) (T := TX2) (N := 7) hx hb hts hi_2 hown hK hP 0 rfl rfl 5 (by decide) fl_34 (fun _ h9 => h9) rfl dX2_state_15 ?_
    refine lv_goto (tgt := 27) hx hb dX2_state_18 (by decide) ?_
    exact ret _ _ _ _ _ rfl hP hD hS dX2_state_27
  · refine lv_aload_n hx hb dX2_state_7 rfl (lv_at hl 0 rfl) ?_
    refine va_get (D := D) (ci := 2) (v := .int opn) (C := RX2) (T := TX2) (N := 7) hx hb hts hi_2 hown hK hP 0 rfl rfl 4 (by decide) fl_31 (fun _ h9 => h9) rfl dX2_state_8 ?_
    refine lv_if_eq (tgt := 21) hx hb dX2_state_11 (by decide) (fun c2 => ?_) (fun c2 => ?_)
    · exact h.elim (fun h => absurd h c1) (fun h => absurd c2 h)
    · refine lv_aload_n hx hb dX2_state_14 rfl (lv_at hl 0 rfl) ?_
      refine va_get (D := D) (ci := 2) (v := .int knd) (C := RX2) (T := TX2) (N := 7) hx hb hts hi_2 hown hK hP 0 rfl rfl 5 (by decide) fl_34 (fun _ h9 => h9) rfl dX2_state_15 ?_
      refine lv_goto (tgt := 27) hx hb dX2_state_18 (by decide) ?_
      exact ret _ _ _ _ _ rfl hP hD hS dX2_state_27
abbrev rm_X2_state_b : Room := { frames := 0, cells := 0, slots := 0, locals := 0 }
set_option maxHeartbeats 4000000 in
set_option maxRecDepth 100000 in
theorem c_X2_state_b (l : Launch) (D : va_G) (cI cL : ClassId) (sz : Nat) (h0 : Nat) (h1 : Nat) (h2 : Nat) (h3 : Nat) (rdy : Int32) (opn : Int32) (knd : Int32) (cnt : Int32) (h : ¬ knd = 0 ∧ opn = 0) : xk_I l yX2_state wsX2_state rm_X2_state_b xk_0 D classes [(cI, .int), (cL, .long)] [.ref h0] [(h0, .inr (2, [.ref h1, .ref h2, .ref h3, .int rdy, .int opn, .int knd, .int cnt]))] [(h0, .inr (2, [.ref h1, .ref h2, .ref h3, .int rdy, .int opn, .int knd, .int cnt]))] (knd + 4) sz := by
  refine xk_entI (cc := cX2_state) (maxL := 1) (by decide) rfl (Nat.le_of_ble_eq_true rfl) ?_
  intro p e s m args below meth co Q A ls hx hb hml hts hown hA hK hP hD hS hX ret hl
  have hl : lv_has ls 1 [(0, .ref h0)] := hl
  have hi_2 : ∀ w ∈ u_ws RX2 TX2 7, w ∈ wsX2_state := by decide +kernel
  have fl_34 := hts (.fieldLink RX2 34 "WideHash" "kind" "I") (by decide +kernel)
  have fl_31 := hts (.fieldLink RX2 31 "WideHash" "open" "Z") (by decide +kernel)
  refine lv_aload_n hx hb dX2_state_0 rfl (lv_at hl 0 rfl) ?_
  refine va_get (D := D) (ci := 2) (v := .int knd) (C := RX2) (T := TX2) (N := 7) hx hb hts hi_2 hown hK hP 0 rfl rfl 5 (by decide) fl_34 (fun _ h9 => h9) rfl dX2_state_1 ?_
  refine lv_if_eq (tgt := 14) hx hb dX2_state_4 (by decide) (fun c1 => ?_) (fun c1 => ?_)
  · exact absurd c1 h.1
  · refine lv_aload_n hx hb dX2_state_7 rfl (lv_at hl 0 rfl) ?_
    refine va_get (D := D) (ci := 2) (v := .int opn) (C := RX2) (T := TX2) (N := 7) hx hb hts hi_2 hown hK hP 0 rfl rfl 4 (by decide) fl_31 (fun _ h9 => h9) rfl dX2_state_8 ?_
    refine lv_if_eq (tgt := 21) hx hb dX2_state_11 (by decide) (fun c2 => ?_) (fun c2 => ?_)
    · refine lv_aload_n hx hb dX2_state_21 rfl (lv_at hl 0 rfl) ?_
      refine va_get (D := D) (ci := 2) (v := .int knd) (C := RX2) (T := TX2) (N := 7) hx hb hts hi_2 hown hK hP 0 rfl rfl 5 (by decide) fl_34 (fun _ h9 => h9) rfl dX2_state_22 ?_
      refine lv_iconst (v := 4) hx hb dX2_state_25 (by decide) ?_
      refine lv_iadd hx hb dX2_state_26 ?_
      exact ret _ _ _ _ _ rfl hP hD hS dX2_state_27
    · exact absurd h.2 c2
abbrev rm_X2_add64Lo : Room := { frames := 0, cells := 0, slots := 0, locals := 0 }
set_option maxHeartbeats 4000000 in
set_option maxRecDepth 100000 in
theorem c_X2_add64Lo (l : Launch) (D : va_G) (h0 : Nat) (a1 : Int32) (a2 : Int32) (a3 : Int32) (a4 : Int32) : xk_pI l yX2_add64Lo wsX2_add64Lo rm_X2_add64Lo [.ref h0, .int a1, .int a2, .int a3, .int a4] (a2 + a4) := by
  refine xk_entPI (cc := cX2_add64Lo) (maxL := 5) (D := D) (cl := classes) (by decide) rfl (Nat.le_of_ble_eq_true rfl) ?_
  intro p e s m args below meth co Q A ls hx hb hml hts hown hP hS ret hl
  have hl : lv_has ls 5 [(0, .ref h0), (1, .int a1), (2, .int a2), (3, .int a3), (4, .int a4)] := hl
  refine lv_iload_n hx hb dX2_add64Lo_0 rfl (lv_at hl 2 rfl) ?_
  refine lv_iload hx hb dX2_add64Lo_1 (lv_at hl 4 rfl) ?_
  refine lv_iadd hx hb dX2_add64Lo_3 ?_
  exact ret _ _ _ _ _ rfl hS dX2_add64Lo_4
abbrev rm_X2_add64Hi : Room := { frames := 1, cells := 0, slots := 0, locals := 21 }
set_option maxHeartbeats 4000000 in
set_option maxRecDepth 100000 in
theorem c_X2_add64Hi (l : Launch) (D : va_G) (h0 : Nat) (a1 : Int32) (a2 : Int32) (a3 : Int32) (a4 : Int32) : xk_pI l yX2_add64Hi wsX2_add64Hi rm_X2_add64Hi [.ref h0, .int a1, .int a2, .int a3, .int a4] ((a1 + a3) + jc_carry a2 a4) := by
  refine xk_entPI (cc := cX2_add64Hi) (maxL := 5) (D := D) (cl := classes) (by decide) rfl (Nat.le_of_ble_eq_true rfl) ?_
  intro p e s m args below meth co Q A ls hx hb hml hts hown hP hS ret hl
  have hl : lv_has ls 5 [(0, .ref h0), (1, .int a1), (2, .int a2), (3, .int a3), (4, .int a4)] := hl
  refine lv_iload_n hx hb dX2_add64Hi_0 rfl (lv_at hl 1 rfl) ?_
  refine lv_iload_n hx hb dX2_add64Hi_1 rfl (lv_at hl 3 rfl) ?_
  refine lv_iadd hx hb dX2_add64Hi_2 ?_
  refine lv_iload_n hx hb dX2_add64Hi_3 rfl (lv_at hl 2 rfl) ?_
  refine lv_iload hx hb dX2_add64Hi_4 (lv_at hl 4 rfl) ?_
  refine xk_goPI (r := (jc_carry a2 a4)) (va_runS (As := [.int a2, .int a4]) (rest := [.int (a1 + a3)]) ⟨hx, hb, hml, hown, hts⟩ (c_X2_carry l D a2 a4) (va_cwS 2 hts gX2_add64Hi_X2_carry rfl rfl rfl (by decide +kernel) ⟨Nat.le_of_ble_eq_true rfl, Nat.le_of_ble_eq_true rfl⟩) preEq rfl rfl hl.1 rfl (lv_room (Nat.le_of_ble_eq_true rfl)) dX2_add64Hi_6 ⟨Nat.le_of_ble_eq_true rfl, Nat.le_of_ble_eq_true rfl⟩) hP hS (fun H locs hP hS => ?_)
  refine lv_iadd hx hb dX2_add64Hi_9 ?_
  exact ret _ _ _ _ _ rfl hS dX2_add64Hi_10
abbrev rm_X2_rotr64Hi : Room := { frames := 1, cells := 0, slots := 0, locals := 25 }
set_option maxHeartbeats 4000000 in
set_option maxRecDepth 100000 in
theorem c_X2_rotr64Hi (l : Launch) (D : va_G) (h0 : Nat) (a1 : Int32) (a2 : Int32) (a3 : Int32) : xk_pI l yX2_rotr64Hi wsX2_rotr64Hi rm_X2_rotr64Hi [.ref h0, .int a1, .int a2, .int a3] (jc_turned a1 a2 a3) := by
  refine xk_entPI (cc := cX2_rotr64Hi) (maxL := 4) (D := D) (cl := classes) (by decide) rfl (Nat.le_of_ble_eq_true rfl) ?_
  intro p e s m args below meth co Q A ls hx hb hml hts hown hP hS ret hl
  have hl : lv_has ls 4 [(0, .ref h0), (1, .int a1), (2, .int a2), (3, .int a3)] := hl
  refine lv_iload_n hx hb dX2_rotr64Hi_0 rfl (lv_at hl 1 rfl) ?_
  refine lv_iload_n hx hb dX2_rotr64Hi_1 rfl (lv_at hl 2 rfl) ?_
  refine lv_iload_n hx hb dX2_rotr64Hi_2 rfl (lv_at hl 3 rfl) ?_
  refine xk_goPI (r := (jc_turned a1 a2 a3)) (va_runS (As := [.int a1, .int a2, .int a3]) (rest := []) ⟨hx, hb, hml, hown, hts⟩ (c_X2_turned l D a1 a2 a3) (va_cwS 3 hts gX2_rotr64Hi_X2_turned rfl rfl rfl (by decide +kernel) ⟨Nat.le_of_ble_eq_true rfl, Nat.le_of_ble_eq_true rfl⟩) preEq rfl rfl hl.1 rfl (lv_room (Nat.le_of_ble_eq_true rfl)) dX2_rotr64Hi_3 ⟨Nat.le_of_ble_eq_true rfl, Nat.le_of_ble_eq_true rfl⟩) hP hS (fun H locs hP hS => ?_)
  exact ret _ _ _ _ _ rfl hS dX2_rotr64Hi_6
abbrev rm_X2_rotr64Lo : Room := { frames := 1, cells := 0, slots := 0, locals := 25 }
set_option maxHeartbeats 4000000 in
set_option maxRecDepth 100000 in
theorem c_X2_rotr64Lo (l : Launch) (D : va_G) (h0 : Nat) (a1 : Int32) (a2 : Int32) (a3 : Int32) : xk_pI l yX2_rotr64Lo wsX2_rotr64Lo rm_X2_rotr64Lo [.ref h0, .int a1, .int a2, .int a3] (jc_turned a2 a1 a3) := by
  refine xk_entPI (cc := cX2_rotr64Lo) (maxL := 4) (D := D) (cl := classes) (by decide) rfl (Nat.le_of_ble_eq_true rfl) ?_
  intro p e s m args below meth co Q A ls hx hb hml hts hown hP hS ret hl
  have hl : lv_has ls 4 [(0, .ref h0), (1, .int a1), (2, .int a2), (3, .int a3)] := hl
  refine lv_iload_n hx hb dX2_rotr64Lo_0 rfl (lv_at hl 2 rfl) ?_
  refine lv_iload_n hx hb dX2_rotr64Lo_1 rfl (lv_at hl 1 rfl) ?_
  refine lv_iload_n hx hb dX2_rotr64Lo_2 rfl (lv_at hl 3 rfl) ?_
  refine xk_goPI (r := (jc_turned a2 a1 a3)) (va_runS (As := [.int a2, .int a1, .int a3]) (rest := []) ⟨hx, hb, hml, hown, hts⟩ (c_X2_turned l D a2 a1 a3) (va_cwS 3 hts gX2_rotr64Lo_X2_turned rfl rfl rfl (by decide +kernel) ⟨Nat.le_of_ble_eq_true rfl, Nat.le_of_ble_eq_true rfl⟩) preEq rfl rfl hl.1 rfl (lv_room (Nat.le_of_ble_eq_true rfl)) dX2_rotr64Lo_3 ⟨Nat.le_of_ble_eq_true rfl, Nat.le_of_ble_eq_true rfl⟩) hP hS (fun H locs hP hS => ?_)
  exact ret _ _ _ _ _ rfl hS dX2_rotr64Lo_6
