abbrev rm_X2_init_ : Room := { frames := 0, cells := 0, slots := 0, locals := 0 }
set_option maxHeartbeats 4000000 in
set_option maxRecDepth 100000 in
theorem c_X2_init_ (l : Launch) (D : va_G) (cI cL : ClassId) (sz : Nat) (h0 : Nat) (h1 : Nat) (h2 : Nat) (h3 : Nat) (rdy : Int32) (opn : Int32) (knd : Int32) (cnt : Int32) : xk_V l yX2_init_ wsX2_init_ rm_X2_init_ xk_0 D classes [(cI, .int), (cL, .long)] [.ref h0] [(h0, .inr (2, [.ref h1, .ref h2, .ref h3, .int rdy, .int opn, .int knd, .int cnt]))] [(h0, .inr (2, [.ref h1, .ref h2, .ref h3, .int 1, .int opn, .int knd, .int cnt]))] sz := by
  refine xk_entV (cc := cX2_init_) (maxL := 1) (by decide) rfl (Nat.le_of_ble_eq_true rfl) ?_
  intro p e s m args below meth co Q A ls hx hb hml hts hown hA hK hP hD hS hX ret hl
  have hl : lv_has ls 1 [(0, .ref h0)] := hl
  have hi_2 : ∀ w ∈ u_ws RX2 TX2 7, w ∈ wsX2_init_ := by decide +kernel
  have fl_27 := hts (.fieldLink RX2 27 "WideHash" "ready" "Z") (by decide +kernel)
  refine lv_aload_n hx hb dX2_init__0 rfl (lv_at hl 0 rfl) ?_
  refine lv_iconst (v := 1) hx hb dX2_init__1 (by decide) ?_
  refine va_put (D := D) (ci := 2) (v := .int 1) (ty := .boolean) (C := RX2) (T := TX2) (N := 7) hx hb hts hi_2 tyX2 tyX2_ok nmX2 hown hK hP hD hS 0 rfl rfl 3 (by decide) fl_27 (fun _ h9 => h9) rfl (by decide +kernel) rfl rfl (Nat.le_of_ble_eq_true rfl) dX2_init__2 (fun H locs hP hD hS => ?_)
  have hP : va_P D classes [(h0, .inr (2, [.ref h1, .ref h2, .ref h3, .int 1, .int opn, .int knd, .int cnt]))] H := hP
  have hD : va_D A [(h0, .inr (2, [.ref h1, .ref h2, .ref h3, .int 1, .int opn, .int knd, .int cnt]))] := hD
  exact ret _ _ _ _ hP hD hS dX2_init__5
abbrev rm_X2_openAs : Room := { frames := 0, cells := 0, slots := 0, locals := 0 }
set_option maxHeartbeats 4000000 in
set_option maxRecDepth 100000 in
theorem c_X2_openAs (l : Launch) (D : va_G) (cI cL : ClassId) (sz : Nat) (h0 : Nat) (h1 : Nat) (h2 : Nat) (h3 : Nat) (rdy : Int32) (opn : Int32) (knd : Int32) (cnt : Int32) (k : Int32) : xk_V l yX2_openAs wsX2_openAs rm_X2_openAs xk_0 D classes [(cI, .int), (cL, .long)] [.ref h0, .int k] [(h0, .inr (2, [.ref h1, .ref h2, .ref h3, .int rdy, .int opn, .int knd, .int cnt]))] [(h0, .inr (2, [.ref h1, .ref h2, .ref h3, .int rdy, .int 1, .int k, .int 0]))] sz := by
  refine xk_entV (cc := cX2_openAs) (maxL := 2) (by decide) rfl (Nat.le_of_ble_eq_true rfl) ?_
  intro p e s m args below meth co Q A ls hx hb hml hts hown hA hK hP hD hS hX ret hl
  have hl : lv_has ls 2 [(0, .ref h0), (1, .int k)] := hl
  have hi_2 : ∀ w ∈ u_ws RX2 TX2 7, w ∈ wsX2_openAs := by decide +kernel
  have fl_34 := hts (.fieldLink RX2 34 "WideHash" "kind" "I") (by decide +kernel)
  have fl_31 := hts (.fieldLink RX2 31 "WideHash" "open" "Z") (by decide +kernel)
  have fl_38 := hts (.fieldLink RX2 38 "WideHash" "count" "I") (by decide +kernel)
  refine lv_aload_n hx hb dX2_openAs_0 rfl (lv_at hl 0 rfl) ?_
  refine lv_iload_n hx hb dX2_openAs_1 rfl (lv_at hl 1 rfl) ?_
  refine va_put (D := D) (ci := 2) (v := .int k) (ty := .int) (C := RX2) (T := TX2) (N := 7) hx hb hts hi_2 tyX2 tyX2_ok nmX2 hown hK hP hD hS 0 rfl rfl 5 (by decide) fl_34 (fun _ h9 => h9) rfl (by decide +kernel) rfl rfl (Nat.le_of_ble_eq_true rfl) dX2_openAs_2 (fun H locs hP hD hS => ?_)
  have hP : va_P D classes [(h0, .inr (2, [.ref h1, .ref h2, .ref h3, .int rdy, .int opn, .int k, .int cnt]))] H := hP
  have hD : va_D A [(h0, .inr (2, [.ref h1, .ref h2, .ref h3, .int rdy, .int opn, .int k, .int cnt]))] := hD
  refine lv_aload_n hx hb dX2_openAs_5 rfl (lv_at hl 0 rfl) ?_
  refine lv_iconst (v := 1) hx hb dX2_openAs_6 (by decide) ?_
  refine va_put (D := D) (ci := 2) (v := .int 1) (ty := .boolean) (C := RX2) (T := TX2) (N := 7) hx hb hts hi_2 tyX2 tyX2_ok nmX2 hown hK hP hD hS 0 rfl rfl 4 (by decide) fl_31 (fun _ h9 => h9) rfl (by decide +kernel) rfl rfl (Nat.le_of_ble_eq_true rfl) dX2_openAs_7 (fun H locs hP hD hS => ?_)
  have hP : va_P D classes [(h0, .inr (2, [.ref h1, .ref h2, .ref h3, .int rdy, .int 1, .int k, .int cnt]))] H := hP
  have hD : va_D A [(h0, .inr (2, [.ref h1, .ref h2, .ref h3, .int rdy, .int 1, .int k, .int cnt]))] := hD
  refine lv_aload_n hx hb dX2_openAs_10 rfl (lv_at hl 0 rfl) ?_
  refine lv_iconst (v := 0) hx hb dX2_openAs_11 (by decide) ?_
  refine va_put (D := D) (ci := 2) (v := .int 0) (ty := .int) (C := RX2) (T := TX2) (N := 7) hx hb hts hi_2 tyX2 tyX2_ok nmX2 hown hK hP hD hS 0 rfl rfl 6 (by decide) fl_38 (fun _ h9 => h9) rfl (by decide +kernel) rfl rfl (Nat.le_of_ble_eq_true rfl) dX2_openAs_12 (fun H locs hP hD hS => ?_)
  have hP : va_P D classes [(h0, .inr (2, [.ref h1, .ref h2, .ref h3, .int rdy, .int 1, .int k, .int 0]))] H := hP
  have hD : va_D A [(h0, .inr (2, [.ref h1, .ref h2, .ref h3, .int rdy, .int 1, .int k, .int 0]))] := hD
  exact ret _ _ _ _ hP hD hS dX2_openAs_15
abbrev rm_X2_beginSha_no : Room := { frames := 0, cells := 0, slots := 0, locals := 0 }
set_option maxHeartbeats 4000000 in
set_option maxRecDepth 100000 in
theorem c_X2_beginSha_no (l : Launch) (D : va_G) (cI cL : ClassId) (sz : Nat) (h0 : Nat) (h1 : Nat) (h2 : Nat) (h3 : Nat) (rdy : Int32) (opn : Int32) (knd : Int32) (cnt : Int32) (b : Int32) (hno : rdy = 0 ∨ (¬ b = 512 ∧ ¬ b = 384)) : xk_I l yX2_beginSha wsX2_beginSha rm_X2_beginSha_no xk_0 D classes [(cI, .int), (cL, .long)] [.ref h0, .int b] [(h0, .inr (2, [.ref h1, .ref h2, .ref h3, .int rdy, .int opn, .int knd, .int cnt]))] [(h0, .inr (2, [.ref h1, .ref h2, .ref h3, .int rdy, .int opn, .int knd, .int cnt]))] (0) sz := by
  refine xk_entZ (cc := cX2_beginSha) (maxL := 2) (by decide) rfl (Nat.le_of_ble_eq_true rfl) (Or.inl rfl) ?_
  intro p e s m args below meth co Q A ls hx hb hml hts hown hA hK hP hD hS hX ret hl
  have hl : lv_has ls 2 [(0, .ref h0), (1, .int b)] := hl
  have hi_2 : ∀ w ∈ u_ws RX2 TX2 7, w ∈ wsX2_beginSha := by decide +kernel
  have fl_27 := hts (.fieldLink RX2 27 "WideHash" "ready" "Z") (by decide +kernel)
  have fl_10 := hts (.fieldLink RX2 10 "WideHash" "sha" "LWideHash$Sha;") (by decide +kernel)
  refine lv_aload_n hx hb dX2_beginSha_0 rfl (lv_at hl 0 rfl) ?_
  refine va_get (D := D) (ci := 2) (v := .int rdy) (C := RX2) (T := TX2) (N := 7) hx hb hts hi_2 hown hK hP 0 rfl rfl 3 (by decide) fl_27 (fun _ h9 => h9) rfl dX2_beginSha_1 ?_
  refine lv_if_eq (tgt := 21) hx hb dX2_beginSha_4 (by decide) (fun c1 => ?_) (fun c1 => ?_)
  · refine lv_iconst (v := 0) hx hb dX2_beginSha_21 (by decide) ?_
    exact ret _ _ _ _ _ rfl hP hD hS dX2_beginSha_22
  · refine lv_iload_n hx hb dX2_beginSha_7 rfl (lv_at hl 1 rfl) ?_
    refine lv_sipush (v := 512) hx hb dX2_beginSha_8 (by decide) ?_
    refine lv_icmp_eq (tgt := 23) hx hb dX2_beginSha_11 (by decide) (fun c2 => ?_) (fun c2 => ?_)
    · exact hno.elim (fun h => absurd h c1) (fun h => absurd c2 h.1)
    · refine lv_iload_n hx hb dX2_beginSha_14 rfl (lv_at hl 1 rfl) ?_
      refine lv_sipush (v := 384) hx hb dX2_beginSha_15 (by decide) ?_
      refine lv_icmp_eq (tgt := 23) hx hb dX2_beginSha_18 (by decide) (fun c3 => ?_) (fun c3 => ?_)
      · exact hno.elim (fun h => absurd h c1) (fun h => absurd c3 h.2)
      · refine lv_iconst (v := 0) hx hb dX2_beginSha_21 (by decide) ?_
        exact ret _ _ _ _ _ rfl hP hD hS dX2_beginSha_22
abbrev rm_X2_beginSha_5 : Room := { frames := 2, cells := 0, slots := 0, locals := 61 }
set_option maxHeartbeats 4000000 in
set_option maxRecDepth 100000 in
theorem c_X2_beginSha_5 (l : Launch) (D : va_G) (cI cL : ClassId) (sz : Nat) (h0 : Nat) (h1 : Nat) (h2 : Nat) (h3 : Nat) (h4 : Nat) (h5 : Nat) (h6 : Nat) (opn : Int32) (knd : Int32) (cnt : Int32) (fl : Int32) (tot : Nat → Int32) : xk_I l yX2_beginSha wsX2_beginSha rm_X2_beginSha_5 xs_X D classes [(cI, .int), (cL, .long)] [.ref h0, .int 512] [(h0, .inr (2, [.ref h1, .ref h2, .ref h3, .int 1, .int opn, .int knd, .int cnt])), (h1, .inr (0, [.ref h4, .ref h5, .ref h6, .int fl])), (h4, .inl (cI, 16, .inl tot))] [(h0, .inr (2, [.ref h1, .ref h2, .ref h3, .int 1, .int 1, .int 1, .int 0])), (h1, .inr (0, [.ref h4, .ref h5, .ref h6, .int 0])), (h4, .inl (cI, 16, .inl (va_cpy xs_SQ tot 0 0 16)))] (1) sz := by
  refine xk_entZ (cc := cX2_beginSha) (maxL := 2) (by decide) rfl (Nat.le_of_ble_eq_true rfl) (Or.inr rfl) ?_
  intro p e s m args below meth co Q A ls hx hb hml hts hown hA hK hP hD hS hX ret hl
  have hl : lv_has ls 2 [(0, .ref h0), (1, .int 512)] := hl
  have hi_0 : ∀ w ∈ u_ws RX0 TX0 4, w ∈ wsX2_beginSha := by decide +kernel
  have hi_2 : ∀ w ∈ u_ws RX2 TX2 7, w ∈ wsX2_beginSha := by decide +kernel
  have fl_27 := hts (.fieldLink RX2 27 "WideHash" "ready" "Z") (by decide +kernel)
  have fl_10 := hts (.fieldLink RX2 10 "WideHash" "sha" "LWideHash$Sha;") (by decide +kernel)
  refine lv_aload_n hx hb dX2_beginSha_0 rfl (lv_at hl 0 rfl) ?_
  refine va_get (D := D) (ci := 2) (v := .int 1) (C := RX2) (T := TX2) (N := 7) hx hb hts hi_2 hown hK hP 0 rfl rfl 3 (by decide) fl_27 (fun _ h9 => h9) rfl dX2_beginSha_1 ?_
  refine lv_if_eq (tgt := 21) hx hb dX2_beginSha_4 (by decide) (fun c => ?_) (fun c => ?_)
  · exact absurd c (by decide)
  · refine lv_iload_n hx hb dX2_beginSha_7 rfl (lv_at hl 1 rfl) ?_
    refine lv_sipush (v := 512) hx hb dX2_beginSha_8 (by decide) ?_
    refine lv_icmp_eq (tgt := 23) hx hb dX2_beginSha_11 (by decide) (fun c => ?_) (fun c => ?_)
    · refine lv_aload_n hx hb dX2_beginSha_23 rfl (lv_at hl 0 rfl) ?_
      refine va_get (D := D) (ci := 2) (v := .ref h1) (C := RX2) (T := TX2) (N := 7) hx hb hts hi_2 hown hK hP 0 rfl rfl 0 (by decide) fl_10 (fun _ h9 => h9) rfl dX2_beginSha_24 ?_
      refine lv_iload_n hx hb dX2_beginSha_27 rfl (lv_at hl 1 rfl) ?_
      refine lv_sipush (v := 384) hx hb dX2_beginSha_28 (by decide) ?_
      refine lv_icmp_ne (tgt := 38) hx hb dX2_beginSha_31 (by decide) (fun c => ?_) (fun c => ?_)
      · refine lv_iconst (v := 0) hx hb dX2_beginSha_38 (by decide) ?_
        refine xk_goV (wr := [(h0, .inr (2, [.ref h1, .ref h2, .ref h3, .int 1, .int opn, .int knd, .int cnt]))]) (w2 := [(h0, .inr (2, [.ref h1, .ref h2, .ref h3, .int 1, .int opn, .int knd, .int cnt])), (h1, .inr (0, [.ref h4, .ref h5, .ref h6, .int 0])), (h4, .inl (cI, 16, .inl (va_cpy xs_SQ tot 0 0 16)))]) (va_runV (As := [.int 0]) (rest := []) ⟨hx, hb, hml, hown, hts⟩ (c_X0_begin_a l D cI cL s.heap.size h1 h4 h5 h6 fl tot) (cwV 1 hts gX2_beginSha_X0_begin rfl rfl rfl (by decide +kernel) ⟨Nat.le_of_ble_eq_true rfl, Nat.le_of_ble_eq_true rfl⟩) ⟨xk_blind xs_X_ok, va_recv hK hP (ci := 0) (q0 := 1) rfl rfl, xk_at xs_X_ok hX hP hD hK hS hA [1, 2] rfl (by decide) rfl⟩ rfl rfl hl.1 rfl (lv_room (Nat.le_of_ble_eq_true rfl)) dX2_beginSha_39 ⟨Nat.le_of_ble_eq_true rfl, Nat.le_of_ble_eq_true rfl⟩) hP hD hS hA [1, 2] [0] [0, 1, 2] rfl rfl (by decide) (by decide) rfl (by decide) rfl (fun H locs hP hD hS => ?_)
        refine lv_aload_n hx hb dX2_beginSha_42 rfl (lv_at hl 0 rfl) ?_
        refine lv_iload_n hx hb dX2_beginSha_43 rfl (lv_at hl 1 rfl) ?_
        refine lv_sipush (v := 384) hx hb dX2_beginSha_44 (by decide) ?_
        refine lv_icmp_ne (tgt := 54) hx hb dX2_beginSha_47 (by decide) (fun c => ?_) (fun c => ?_)
        · refine lv_iconst (v := 1) hx hb dX2_beginSha_54 (by decide) ?_
          refine xk_goV (wr := [(h1, .inr (0, [.ref h4, .ref h5, .ref h6, .int 0])), (h4, .inl (cI, 16, .inl (va_cpy xs_SQ tot 0 0 16)))]) (w2 := [(h0, .inr (2, [.ref h1, .ref h2, .ref h3, .int 1, .int 1, .int 1, .int 0])), (h1, .inr (0, [.ref h4, .ref h5, .ref h6, .int 0])), (h4, .inl (cI, 16, .inl (va_cpy xs_SQ tot 0 0 16)))]) (va_runV (As := [.int 1]) (rest := []) ⟨hx, hb, hml, hown, hts⟩ (c_X2_openAs l D cI cL H.size h0 h1 h2 h3 1 opn knd cnt 1) (cwV 1 hts gX2_beginSha_X2_openAs rfl rfl rfl (by decide +kernel) ⟨Nat.le_of_ble_eq_true rfl, Nat.le_of_ble_eq_true rfl⟩) ⟨xk_blind xk_0_ok, va_recv hK hP (ci := 2) (q0 := 0) rfl rfl, xk_at xk_0_ok trivial hP hD hK hS hA [0] rfl (by decide) rfl⟩ rfl rfl hl.1 rfl (lv_room (Nat.le_of_ble_eq_true rfl)) dX2_beginSha_55 ⟨Nat.le_of_ble_eq_true rfl, Nat.le_of_ble_eq_true rfl⟩) hP hD hS hA [0] [1, 2] [2, 0, 1] rfl rfl (by decide) (by decide) rfl (by decide) rfl (fun H locs hP hD hS => ?_)
          refine lv_iconst (v := 1) hx hb dX2_beginSha_58 (by decide) ?_
          exact ret _ _ _ _ _ rfl hP hD hS dX2_beginSha_59
        · exact absurd c (by decide)
      · exact absurd c (by decide)
    · exact absurd rfl c
abbrev rm_X2_beginSha_3 : Room := { frames := 2, cells := 0, slots := 0, locals := 61 }
set_option maxHeartbeats 4000000 in
set_option maxRecDepth 100000 in
theorem c_X2_beginSha_3 (l : Launch) (D : va_G) (cI cL : ClassId) (sz : Nat) (h0 : Nat) (h1 : Nat) (h2 : Nat) (h3 : Nat) (h4 : Nat) (h5 : Nat) (h6 : Nat) (opn : Int32) (knd : Int32) (cnt : Int32) (fl : Int32) (tot : Nat → Int32) : xk_I l yX2_beginSha wsX2_beginSha rm_X2_beginSha_3 xs_X D classes [(cI, .int), (cL, .long)] [.ref h0, .int 384] [(h0, .inr (2, [.ref h1, .ref h2, .ref h3, .int 1, .int opn, .int knd, .int cnt])), (h1, .inr (0, [.ref h4, .ref h5, .ref h6, .int fl])), (h4, .inl (cI, 16, .inl tot))] [(h0, .inr (2, [.ref h1, .ref h2, .ref h3, .int 1, .int 1, .int 2, .int 0])), (h1, .inr (0, [.ref h4, .ref h5, .ref h6, .int 0])), (h4, .inl (cI, 16, .inl (va_cpy xs_SQ tot 16 0 16)))] (1) sz := by
  refine xk_entZ (cc := cX2_beginSha) (maxL := 2) (by decide) rfl (Nat.le_of_ble_eq_true rfl) (Or.inr rfl) ?_
  intro p e s m args below meth co Q A ls hx hb hml hts hown hA hK hP hD hS hX ret hl
  have hl : lv_has ls 2 [(0, .ref h0), (1, .int 384)] := hl
  have hi_0 : ∀ w ∈ u_ws RX0 TX0 4, w ∈ wsX2_beginSha := by decide +kernel
  have hi_2 : ∀ w ∈ u_ws RX2 TX2 7, w ∈ wsX2_beginSha := by decide +kernel
  have fl_27 := hts (.fieldLink RX2 27 "WideHash" "ready" "Z") (by decide +kernel)
  have fl_10 := hts (.fieldLink RX2 10 "WideHash" "sha" "LWideHash$Sha;") (by decide +kernel)
  refine lv_aload_n hx hb dX2_beginSha_0 rfl (lv_at hl 0 rfl) ?_
  refine va_get (D := D) (ci := 2) (v := .int 1) (C := RX2) (T := TX2) (N := 7) hx hb hts hi_2 hown hK hP 0 rfl rfl 3 (by decide) fl_27 (fun _ h9 => h9) rfl dX2_beginSha_1 ?_
  refine lv_if_eq (tgt := 21) hx hb dX2_beginSha_4 (by decide) (fun c => ?_) (fun c => ?_)
  · exact absurd c (by decide)
  · refine lv_iload_n hx hb dX2_beginSha_7 rfl (lv_at hl 1 rfl) ?_
    refine lv_sipush (v := 512) hx hb dX2_beginSha_8 (by decide) ?_
    refine lv_icmp_eq (tgt := 23) hx hb dX2_beginSha_11 (by decide) (fun c => ?_) (fun c => ?_)
    · exact absurd c (by decide)
    · refine lv_iload_n hx hb dX2_beginSha_14 rfl (lv_at hl 1 rfl) ?_
      refine lv_sipush (v := 384) hx hb dX2_beginSha_15 (by decide) ?_
      refine lv_icmp_eq (tgt := 23) hx hb dX2_beginSha_18 (by decide) (fun c => ?_) (fun c => ?_)
      · refine lv_aload_n hx hb dX2_beginSha_23 rfl (lv_at hl 0 rfl) ?_
        refine va_get (D := D) (ci := 2) (v := .ref h1) (C := RX2) (T := TX2) (N := 7) hx hb hts hi_2 hown hK hP 0 rfl rfl 0 (by decide) fl_10 (fun _ h9 => h9) rfl dX2_beginSha_24 ?_
        refine lv_iload_n hx hb dX2_beginSha_27 rfl (lv_at hl 1 rfl) ?_
        refine lv_sipush (v := 384) hx hb dX2_beginSha_28 (by decide) ?_
        refine lv_icmp_ne (tgt := 38) hx hb dX2_beginSha_31 (by decide) (fun c => ?_) (fun c => ?_)
        · exact absurd rfl c
        · refine lv_iconst (v := 1) hx hb dX2_beginSha_34 (by decide) ?_
          refine lv_goto (tgt := 39) hx hb dX2_beginSha_35 (by decide) ?_
          refine xk_goV (wr := [(h0, .inr (2, [.ref h1, .ref h2, .ref h3, .int 1, .int opn, .int knd, .int cnt]))]) (w2 := [(h0, .inr (2, [.ref h1, .ref h2, .ref h3, .int 1, .int opn, .int knd, .int cnt])), (h1, .inr (0, [.ref h4, .ref h5, .ref h6, .int 0])), (h4, .inl (cI, 16, .inl (va_cpy xs_SQ tot 16 0 16)))]) (va_runV (As := [.int 1]) (rest := []) ⟨hx, hb, hml, hown, hts⟩ (c_X0_begin_b l D cI cL s.heap.size h1 h4 h5 h6 fl tot) (cwV 1 hts gX2_beginSha_X0_begin rfl rfl rfl (by decide +kernel) ⟨Nat.le_of_ble_eq_true rfl, Nat.le_of_ble_eq_true rfl⟩) ⟨xk_blind xs_X_ok, va_recv hK hP (ci := 0) (q0 := 1) rfl rfl, xk_at xs_X_ok hX hP hD hK hS hA [1, 2] rfl (by decide) rfl⟩ rfl rfl hl.1 rfl (lv_room (Nat.le_of_ble_eq_true rfl)) dX2_beginSha_39 ⟨Nat.le_of_ble_eq_true rfl, Nat.le_of_ble_eq_true rfl⟩) hP hD hS hA [1, 2] [0] [0, 1, 2] rfl rfl (by decide) (by decide) rfl (by decide) rfl (fun H locs hP hD hS => ?_)
          refine lv_aload_n hx hb dX2_beginSha_42 rfl (lv_at hl 0 rfl) ?_
          refine lv_iload_n hx hb dX2_beginSha_43 rfl (lv_at hl 1 rfl) ?_
          refine lv_sipush (v := 384) hx hb dX2_beginSha_44 (by decide) ?_
          refine lv_icmp_ne (tgt := 54) hx hb dX2_beginSha_47 (by decide) (fun c => ?_) (fun c => ?_)
          · exact absurd rfl c
          · refine lv_iconst (v := 2) hx hb dX2_beginSha_50 (by decide) ?_
            refine lv_goto (tgt := 55) hx hb dX2_beginSha_51 (by decide) ?_
            refine xk_goV (wr := [(h1, .inr (0, [.ref h4, .ref h5, .ref h6, .int 0])), (h4, .inl (cI, 16, .inl (va_cpy xs_SQ tot 16 0 16)))]) (w2 := [(h0, .inr (2, [.ref h1, .ref h2, .ref h3, .int 1, .int 1, .int 2, .int 0])), (h1, .inr (0, [.ref h4, .ref h5, .ref h6, .int 0])), (h4, .inl (cI, 16, .inl (va_cpy xs_SQ tot 16 0 16)))]) (va_runV (As := [.int 2]) (rest := []) ⟨hx, hb, hml, hown, hts⟩ (c_X2_openAs l D cI cL H.size h0 h1 h2 h3 1 opn knd cnt 2) (cwV 1 hts gX2_beginSha_X2_openAs rfl rfl rfl (by decide +kernel) ⟨Nat.le_of_ble_eq_true rfl, Nat.le_of_ble_eq_true rfl⟩) ⟨xk_blind xk_0_ok, va_recv hK hP (ci := 2) (q0 := 0) rfl rfl, xk_at xk_0_ok trivial hP hD hK hS hA [0] rfl (by decide) rfl⟩ rfl rfl hl.1 rfl (lv_room (Nat.le_of_ble_eq_true rfl)) dX2_beginSha_55 ⟨Nat.le_of_ble_eq_true rfl, Nat.le_of_ble_eq_true rfl⟩) hP hD hS hA [0] [1, 2] [2, 0, 1] rfl rfl (by decide) (by decide) rfl (by decide) rfl (fun H locs hP hD hS => ?_)
            refine lv_iconst (v := 1) hx hb dX2_beginSha_58 (by decide) ?_
            exact ret _ _ _ _ _ rfl hP hD hS dX2_beginSha_59
      · exact absurd rfl c
abbrev rm_X2_sipKey_no : Room := { frames := 0, cells := 0, slots := 0, locals := 0 }
set_option maxHeartbeats 4000000 in
set_option maxRecDepth 100000 in
theorem c_X2_sipKey_no (l : Launch) (D : va_G) (cI cL : ClassId) (sz : Nat) (h0 : Nat) (h1 : Nat) (h2 : Nat) (h3 : Nat) (rdy : Int32) (opn : Int32) (knd : Int32) (cnt : Int32) (i : Int32) (u : Int32) (hno : i < 0 ∨ ¬ i < 4) : xk_I l yX2_sipKey wsX2_sipKey rm_X2_sipKey_no xk_0 D classes [(cI, .int), (cL, .long)] [.ref h0, .int i, .int u] [(h0, .inr (2, [.ref h1, .ref h2, .ref h3, .int rdy, .int opn, .int knd, .int cnt]))] [(h0, .inr (2, [.ref h1, .ref h2, .ref h3, .int rdy, .int opn, .int knd, .int cnt]))] (0) sz := by
  refine xk_entZ (cc := cX2_sipKey) (maxL := 3) (by decide) rfl (Nat.le_of_ble_eq_true rfl) (Or.inl rfl) ?_
  intro p e s m args below meth co Q A ls hx hb hml hts hown hA hK hP hD hS hX ret hl
  have hl : lv_has ls 3 [(0, .ref h0), (1, .int i), (2, .int u)] := hl
  have hi_2 : ∀ w ∈ u_ws RX2 TX2 7, w ∈ wsX2_sipKey := by decide +kernel
  have fl_23 := hts (.fieldLink RX2 23 "WideHash" "key" "[I") (by decide +kernel)
  refine lv_iload_n hx hb dX2_sipKey_0 rfl (lv_at hl 1 rfl) ?_
  refine lv_if_lt (tgt := 9) hx hb dX2_sipKey_1 (by decide) (fun c1 => ?_) (fun c1 => ?_)
  · refine lv_iconst (v := 0) hx hb dX2_sipKey_9 (by decide) ?_
    exact ret _ _ _ _ _ rfl hP hD hS dX2_sipKey_10
  · refine lv_iload_n hx hb dX2_sipKey_4 rfl (lv_at hl 1 rfl) ?_
    refine lv_iconst (v := 4) hx hb dX2_sipKey_5 (by decide) ?_
    refine lv_icmp_lt (tgt := 11) hx hb dX2_sipKey_6 (by decide) (fun c2 => ?_) (fun c2 => ?_)
    · exact hno.elim (fun h => absurd h c1) (fun h => absurd c2 h)
    · refine lv_iconst (v := 0) hx hb dX2_sipKey_9 (by decide) ?_
      exact ret _ _ _ _ _ rfl hP hD hS dX2_sipKey_10
abbrev rm_X2_sipKey_y : Room := { frames := 0, cells := 0, slots := 0, locals := 0 }
set_option maxHeartbeats 4000000 in
set_option maxRecDepth 100000 in
theorem c_X2_sipKey_y (l : Launch) (D : va_G) (cI cL : ClassId) (sz : Nat) (h0 : Nat) (h1 : Nat) (h2 : Nat) (h3 : Nat) (rdy : Int32) (opn : Int32) (knd : Int32) (cnt : Int32) (key : Nat → Int32) (i : Nat) (u : Int32) (hi : i < 4) : xk_I l yX2_sipKey wsX2_sipKey rm_X2_sipKey_y xk_0 D classes [(cI, .int), (cL, .long)] [.ref h0, .int (nI i), .int u] [(h0, .inr (2, [.ref h1, .ref h2, .ref h3, .int rdy, .int opn, .int knd, .int cnt])), (h3, .inl (cI, 4, .inl key))] [(h0, .inr (2, [.ref h1, .ref h2, .ref h3, .int rdy, .int opn, .int knd, .int cnt])), (h3, .inl (cI, 4, .inl (upd key i u)))] (1) sz := by
  refine xk_entZ (cc := cX2_sipKey) (maxL := 3) (by decide) rfl (Nat.le_of_ble_eq_true rfl) (Or.inr rfl) ?_
  intro p e s m args below meth co Q A ls hx hb hml hts hown hA hK hP hD hS hX ret hl
  have hl : lv_has ls 3 [(0, .ref h0), (1, .int (nI i)), (2, .int u)] := hl
  have hi_2 : ∀ w ∈ u_ws RX2 TX2 7, w ∈ wsX2_sipKey := by decide +kernel
  have fl_23 := hts (.fieldLink RX2 23 "WideHash" "key" "[I") (by decide +kernel)
  refine lv_iload_n hx hb dX2_sipKey_0 rfl (lv_at hl 1 rfl) ?_
  refine lv_if_lt (tgt := 9) hx hb dX2_sipKey_1 (by decide) (fun c => ?_) (fun c => ?_)
  · exact absurd c (nI_pos (by omega))
  · refine lv_iload_n hx hb dX2_sipKey_4 rfl (lv_at hl 1 rfl) ?_
    refine lv_iconst (v := 4) hx hb dX2_sipKey_5 (by decide) ?_
    refine lv_icmp_lt (tgt := 11) hx hb dX2_sipKey_6 (by decide) (fun c => ?_) (fun c => ?_)
    · refine lv_aload_n hx hb dX2_sipKey_11 rfl (lv_at hl 0 rfl) ?_
      refine va_get (D := D) (ci := 2) (v := .ref h3) (C := RX2) (T := TX2) (N := 7) hx hb hts hi_2 hown hK hP 0 rfl rfl 2 (by decide) fl_23 (fun _ h9 => h9) rfl dX2_sipKey_12 ?_
      refine lv_iload_n hx hb dX2_sipKey_15 rfl (lv_at hl 1 rfl) ?_
      refine lv_iload_n hx hb dX2_sipKey_16 rfl (lv_at hl 2 rfl) ?_
      refine xk_iast hx hb hK hP hD hS 1 0 rfl rfl i rfl (by omega) (by decide) dX2_sipKey_17 (fun H locs hP hD hS => ?_)
      have hP : va_P D classes [(h0, .inr (2, [.ref h1, .ref h2, .ref h3, .int rdy, .int opn, .int knd, .int cnt])), (h3, .inl (cI, 4, .inl (upd key i u)))] H := hP
      have hD : va_D A [(h0, .inr (2, [.ref h1, .ref h2, .ref h3, .int rdy, .int opn, .int knd, .int cnt])), (h3, .inl (cI, 4, .inl (upd key i u)))] := hD
      generalize eL1 : upd key i u = L1 at hP hD
      refine lv_iconst (v := 1) hx hb dX2_sipKey_18 (by decide) ?_
      subst eL1
      exact ret _ _ _ _ _ rfl hP hD hS dX2_sipKey_19
    · exact absurd (nI_lt (a := i) (b := 4) (by omega) (by omega)) c
abbrev rm_X2_beginSip_no : Room := { frames := 0, cells := 0, slots := 0, locals := 0 }
set_option maxHeartbeats 4000000 in
set_option maxRecDepth 100000 in
theorem c_X2_beginSip_no (l : Launch) (D : va_G) (cI cL : ClassId) (sz : Nat) (h0 : Nat) (h1 : Nat) (h2 : Nat) (h3 : Nat) (opn : Int32) (knd : Int32) (cnt : Int32) : xk_I l yX2_beginSip wsX2_beginSip rm_X2_beginSip_no xk_0 D classes [(cI, .int), (cL, .long)] [.ref h0] [(h0, .inr (2, [.ref h1, .ref h2, .ref h3, .int 0, .int opn, .int knd, .int cnt]))] [(h0, .inr (2, [.ref h1, .ref h2, .ref h3, .int 0, .int opn, .int knd, .int cnt]))] (0) sz := by
  refine xk_entZ (cc := cX2_beginSip) (maxL := 1) (by decide) rfl (Nat.le_of_ble_eq_true rfl) (Or.inl rfl) ?_
  intro p e s m args below meth co Q A ls hx hb hml hts hown hA hK hP hD hS hX ret hl
  have hl : lv_has ls 1 [(0, .ref h0)] := hl
  have hi_2 : ∀ w ∈ u_ws RX2 TX2 7, w ∈ wsX2_beginSip := by decide +kernel
  have fl_27 := hts (.fieldLink RX2 27 "WideHash" "ready" "Z") (by decide +kernel)
  have fl_19 := hts (.fieldLink RX2 19 "WideHash" "sip" "LWideHash$Sip;") (by decide +kernel)
  have fl_23 := hts (.fieldLink RX2 23 "WideHash" "key" "[I") (by decide +kernel)
  refine lv_aload_n hx hb dX2_beginSip_0 rfl (lv_at hl 0 rfl) ?_
  refine va_get (D := D) (ci := 2) (v := .int 0) (C := RX2) (T := TX2) (N := 7) hx hb hts hi_2 hown hK hP 0 rfl rfl 3 (by decide) fl_27 (fun _ h9 => h9) rfl dX2_beginSip_1 ?_
  refine lv_if_ne (tgt := 9) hx hb dX2_beginSip_4 (by decide) (fun c => ?_) (fun c => ?_)
  · exact absurd rfl c
  · refine lv_iconst (v := 0) hx hb dX2_beginSip_7 (by decide) ?_
    exact ret _ _ _ _ _ rfl hP hD hS dX2_beginSip_8
abbrev rm_X2_beginSip_y : Room := { frames := 1, cells := 0, slots := 0, locals := 23 }
set_option maxHeartbeats 4000000 in
set_option maxRecDepth 100000 in
theorem c_X2_beginSip_y (l : Launch) (D : va_G) (cI cL : ClassId) (sz : Nat) (h0 : Nat) (h1 : Nat) (h2 : Nat) (h3 : Nat) (h7 : Nat) (opn : Int32) (knd : Int32) (cnt : Int32) (gh : Int32) (gl : Int32) (fl : Int32) (v : Nat → Int32) (key : Nat → Int32) : xk_I l yX2_beginSip wsX2_beginSip rm_X2_beginSip_y xs_X D classes [(cI, .int), (cL, .long)] [.ref h0] [(h0, .inr (2, [.ref h1, .ref h2, .ref h3, .int 1, .int opn, .int knd, .int cnt])), (h2, .inr (1, [.ref h7, .int gh, .int gl, .int fl])), (h7, .inl (cI, 8, .inl v)), (h3, .inl (cI, 4, .inl key))] [(h0, .inr (2, [.ref h1, .ref h2, .ref h3, .int 1, .int 1, .int 3, .int 0])), (h2, .inr (1, [.ref h7, .int gh, .int gl, .int 0])), (h7, .inl (cI, 8, .inl (jc_first xs_FR key v 4))), (h3, .inl (cI, 4, .inl key))] (1) sz := by
  refine xk_entZ (cc := cX2_beginSip) (maxL := 1) (by decide) rfl (Nat.le_of_ble_eq_true rfl) (Or.inr rfl) ?_
  intro p e s m args below meth co Q A ls hx hb hml hts hown hA hK hP hD hS hX ret hl
  have hl : lv_has ls 1 [(0, .ref h0)] := hl
  have hi_1 : ∀ w ∈ u_ws RX1 TX1 4, w ∈ wsX2_beginSip := by decide +kernel
  have hi_2 : ∀ w ∈ u_ws RX2 TX2 7, w ∈ wsX2_beginSip := by decide +kernel
  have fl_27 := hts (.fieldLink RX2 27 "WideHash" "ready" "Z") (by decide +kernel)
  have fl_19 := hts (.fieldLink RX2 19 "WideHash" "sip" "LWideHash$Sip;") (by decide +kernel)
  have fl_23 := hts (.fieldLink RX2 23 "WideHash" "key" "[I") (by decide +kernel)
  refine lv_aload_n hx hb dX2_beginSip_0 rfl (lv_at hl 0 rfl) ?_
  refine va_get (D := D) (ci := 2) (v := .int 1) (C := RX2) (T := TX2) (N := 7) hx hb hts hi_2 hown hK hP 0 rfl rfl 3 (by decide) fl_27 (fun _ h9 => h9) rfl dX2_beginSip_1 ?_
  refine lv_if_ne (tgt := 9) hx hb dX2_beginSip_4 (by decide) (fun c => ?_) (fun c => ?_)
  · refine lv_aload_n hx hb dX2_beginSip_9 rfl (lv_at hl 0 rfl) ?_
    refine va_get (D := D) (ci := 2) (v := .ref h2) (C := RX2) (T := TX2) (N := 7) hx hb hts hi_2 hown hK hP 0 rfl rfl 1 (by decide) fl_19 (fun _ h9 => h9) rfl dX2_beginSip_10 ?_
    refine lv_aload_n hx hb dX2_beginSip_13 rfl (lv_at hl 0 rfl) ?_
    refine va_get (D := D) (ci := 2) (v := .ref h3) (C := RX2) (T := TX2) (N := 7) hx hb hts hi_2 hown hK hP 0 rfl rfl 2 (by decide) fl_23 (fun _ h9 => h9) rfl dX2_beginSip_14 ?_
    refine xk_goV (wr := [(h0, .inr (2, [.ref h1, .ref h2, .ref h3, .int 1, .int opn, .int knd, .int cnt]))]) (w2 := [(h0, .inr (2, [.ref h1, .ref h2, .ref h3, .int 1, .int opn, .int knd, .int cnt])), (h2, .inr (1, [.ref h7, .int gh, .int gl, .int 0])), (h7, .inl (cI, 8, .inl (jc_first xs_FR key v 4))), (h3, .inl (cI, 4, .inl key))]) (va_runV (As := [.ref h3]) (rest := []) ⟨hx, hb, hml, hown, hts⟩ (c_X1_begin l D cI cL s.heap.size h2 h7 h3 gh gl fl v key) (cwV 1 hts gX2_beginSip_X1_begin rfl rfl rfl (by decide +kernel) ⟨Nat.le_of_ble_eq_true rfl, Nat.le_of_ble_eq_true rfl⟩) ⟨xk_blind xs_X_ok, va_recv hK hP (ci := 1) (q0 := 1) rfl rfl, xk_at xs_X_ok hX hP hD hK hS hA [1, 2, 3] rfl (by decide) rfl⟩ rfl rfl hl.1 rfl (lv_room (Nat.le_of_ble_eq_true rfl)) dX2_beginSip_17 ⟨Nat.le_of_ble_eq_true rfl, Nat.le_of_ble_eq_true rfl⟩) hP hD hS hA [1, 2, 3] [0] [0, 1, 2, 3] rfl rfl (by decide) (by decide) rfl (by decide) rfl (fun H locs hP hD hS => ?_)
    refine lv_aload_n hx hb dX2_beginSip_20 rfl (lv_at hl 0 rfl) ?_
    refine lv_iconst (v := 3) hx hb dX2_beginSip_21 (by decide) ?_
    refine xk_goV (wr := [(h2, .inr (1, [.ref h7, .int gh, .int gl, .int 0])), (h7, .inl (cI, 8, .inl (jc_first xs_FR key v 4))), (h3, .inl (cI, 4, .inl key))]) (w2 := [(h0, .inr (2, [.ref h1, .ref h2, .ref h3, .int 1, .int 1, .int 3, .int 0])), (h2, .inr (1, [.ref h7, .int gh, .int gl, .int 0])), (h7, .inl (cI, 8, .inl (jc_first xs_FR key v 4))), (h3, .inl (cI, 4, .inl key))]) (va_runV (As := [.int 3]) (rest := []) ⟨hx, hb, hml, hown, hts⟩ (c_X2_openAs l D cI cL H.size h0 h1 h2 h3 1 opn knd cnt 3) (cwV 1 hts gX2_beginSip_X2_openAs rfl rfl rfl (by decide +kernel) ⟨Nat.le_of_ble_eq_true rfl, Nat.le_of_ble_eq_true rfl⟩) ⟨xk_blind xk_0_ok, va_recv hK hP (ci := 2) (q0 := 0) rfl rfl, xk_at xk_0_ok trivial hP hD hK hS hA [0] rfl (by decide) rfl⟩ rfl rfl hl.1 rfl (lv_room (Nat.le_of_ble_eq_true rfl)) dX2_beginSip_22 ⟨Nat.le_of_ble_eq_true rfl, Nat.le_of_ble_eq_true rfl⟩) hP hD hS hA [0] [1, 2, 3] [3, 0, 1, 2] rfl rfl (by decide) (by decide) rfl (by decide) rfl (fun H locs hP hD hS => ?_)
    refine lv_iconst (v := 1) hx hb dX2_beginSip_25 (by decide) ?_
    exact ret _ _ _ _ _ rfl hP hD hS dX2_beginSip_26
  · exact absurd c (by decide)
abbrev rm_X2_take_p : Room := { frames := 6, cells := 0, slots := 0, locals := 133 }
set_option maxHeartbeats 4000000 in
set_option maxRecDepth 100000 in
theorem c_X2_take_p (l : Launch) (D : va_G) (cI cL : ClassId) (sz : Nat) (h0 : Nat) (h1 : Nat) (h2 : Nat) (h3 : Nat) (h7 : Nat) (rdy : Int32) (opn : Int32) (cnt : Int32) (S : xp_S) (b : Int32) (hk : S.2.2.2 < 8) : xk_V l yX2_take wsX2_take rm_X2_take_p xs_X D classes [(cI, .int), (cL, .long)] [.ref h0, .int b] [(h0, .inr (2, [.ref h1, .ref h2, .ref h3, .int rdy, .int opn, .int 3, .int cnt])), (h2, .inr (1, [.ref h7, .int S.2.1, .int S.2.2.1, .int (nI S.2.2.2)])), (h7, .inl (cI, 8, .inl S.1))] [(h0, .inr (2, [.ref h1, .ref h2, .ref h3, .int rdy, .int opn, .int 3, .int (cnt + 1)])), (h2, .inr (1, [.ref h7, .int ((jc_ptake S b).2.1), .int ((jc_ptake S b).2.2.1), .int (nI ((jc_ptake S b).2.2.2))])), (h7, .inl (cI, 8, .inl ((jc_ptake S b).1)))] sz := by
  refine xk_entV (cc := cX2_take) (maxL := 2) (by decide) rfl (Nat.le_of_ble_eq_true rfl) ?_
  intro p e s m args below meth co Q A ls hx hb hml hts hown hA hK hP hD hS hX ret hl
  have hl : lv_has ls 2 [(0, .ref h0), (1, .int b)] := hl
  have hi_1 : ∀ w ∈ u_ws RX1 TX1 4, w ∈ wsX2_take := by decide +kernel
  have hi_2 : ∀ w ∈ u_ws RX2 TX2 7, w ∈ wsX2_take := by decide +kernel
  have fl_34 := hts (.fieldLink RX2 34 "WideHash" "kind" "I") (by decide +kernel)
  have fl_19 := hts (.fieldLink RX2 19 "WideHash" "sip" "LWideHash$Sip;") (by decide +kernel)
  have fl_10 := hts (.fieldLink RX2 10 "WideHash" "sha" "LWideHash$Sha;") (by decide +kernel)
  have fl_38 := hts (.fieldLink RX2 38 "WideHash" "count" "I") (by decide +kernel)
  refine lv_aload_n hx hb dX2_take_0 rfl (lv_at hl 0 rfl) ?_
  refine va_get (D := D) (ci := 2) (v := .int 3) (C := RX2) (T := TX2) (N := 7) hx hb hts hi_2 hown hK hP 0 rfl rfl 5 (by decide) fl_34 (fun _ h9 => h9) rfl dX2_take_1 ?_
  refine lv_iconst (v := 3) hx hb dX2_take_4 (by decide) ?_
  refine lv_icmp_ne (tgt := 19) hx hb dX2_take_5 (by decide) (fun c => ?_) (fun c => ?_)
  · exact absurd rfl c
  · refine lv_aload_n hx hb dX2_take_8 rfl (lv_at hl 0 rfl) ?_
    refine va_get (D := D) (ci := 2) (v := .ref h2) (C := RX2) (T := TX2) (N := 7) hx hb hts hi_2 hown hK hP 0 rfl rfl 1 (by decide) fl_19 (fun _ h9 => h9) rfl dX2_take_9 ?_
    refine lv_iload_n hx hb dX2_take_12 rfl (lv_at hl 1 rfl) ?_
    refine xk_goV (wr := [(h0, .inr (2, [.ref h1, .ref h2, .ref h3, .int rdy, .int opn, .int 3, .int cnt]))]) (w2 := [(h0, .inr (2, [.ref h1, .ref h2, .ref h3, .int rdy, .int opn, .int 3, .int cnt])), (h2, .inr (1, [.ref h7, .int ((jc_ptake S b).2.1), .int ((jc_ptake S b).2.2.1), .int (nI ((jc_ptake S b).2.2.2))])), (h7, .inl (cI, 8, .inl ((jc_ptake S b).1)))]) (va_runV (As := [.int b]) (rest := []) ⟨hx, hb, hml, hown, hts⟩ (c_X1_take l D cI cL s.heap.size h2 h7 S b (by omega)) (cwV 1 hts gX2_take_X1_take rfl rfl rfl (by decide +kernel) ⟨Nat.le_of_ble_eq_true rfl, Nat.le_of_ble_eq_true rfl⟩) ⟨xk_blind xs_X_ok, va_recv hK hP (ci := 1) (q0 := 1) rfl rfl, xk_at xs_X_ok hX hP hD hK hS hA [1, 2] rfl (by decide) rfl⟩ rfl rfl hl.1 rfl (lv_room (Nat.le_of_ble_eq_true rfl)) dX2_take_13 ⟨Nat.le_of_ble_eq_true rfl, Nat.le_of_ble_eq_true rfl⟩) hP hD hS hA [1, 2] [0] [0, 1, 2] rfl rfl (by decide) (by decide) rfl (by decide) rfl (fun H locs hP hD hS => ?_)
    refine lv_goto (tgt := 27) hx hb dX2_take_16 (by decide) ?_
    refine lv_aload_n hx hb dX2_take_27 rfl (lv_at hl 0 rfl) ?_
    refine lv_dup hx hb dX2_take_28 rfl ?_
    refine va_get (D := D) (ci := 2) (v := .int cnt) (C := RX2) (T := TX2) (N := 7) hx hb hts hi_2 hown hK hP 0 rfl rfl 6 (by decide) fl_38 (fun _ h9 => h9) rfl dX2_take_29 ?_
    refine lv_iconst (v := 1) hx hb dX2_take_32 (by decide) ?_
    refine lv_iadd hx hb dX2_take_33 ?_
    refine va_put (D := D) (ci := 2) (v := .int (cnt + 1)) (ty := .int) (C := RX2) (T := TX2) (N := 7) hx hb hts hi_2 tyX2 tyX2_ok nmX2 hown hK hP hD hS 0 rfl rfl 6 (by decide) fl_38 (fun _ h9 => h9) rfl (by decide +kernel) rfl rfl (Nat.le_of_ble_eq_true rfl) dX2_take_34 (fun H locs hP hD hS => ?_)
    have hP : va_P D classes [(h0, .inr (2, [.ref h1, .ref h2, .ref h3, .int rdy, .int opn, .int 3, .int (cnt + 1)])), (h2, .inr (1, [.ref h7, .int ((jc_ptake S b).2.1), .int ((jc_ptake S b).2.2.1), .int (nI ((jc_ptake S b).2.2.2))])), (h7, .inl (cI, 8, .inl ((jc_ptake S b).1)))] H := hP
    have hD : va_D A [(h0, .inr (2, [.ref h1, .ref h2, .ref h3, .int rdy, .int opn, .int 3, .int (cnt + 1)])), (h2, .inr (1, [.ref h7, .int ((jc_ptake S b).2.1), .int ((jc_ptake S b).2.2.1), .int (nI ((jc_ptake S b).2.2.2))])), (h7, .inl (cI, 8, .inl ((jc_ptake S b).1)))] := hD
    exact ret _ _ _ _ hP hD hS dX2_take_37
abbrev rm_X2_take_s : Room := { frames := 5, cells := 0, slots := 0, locals := 114 }
set_option maxHeartbeats 4000000 in
set_option maxRecDepth 100000 in
theorem c_X2_take_s (l : Launch) (D : va_G) (cI cL : ClassId) (sz : Nat) (h0 : Nat) (h1 : Nat) (h2 : Nat) (h3 : Nat) (h4 : Nat) (h5 : Nat) (h6 : Nat) (rdy : Int32) (opn : Int32) (knd : Int32) (cnt : Int32) (S : xs_S) (b : Int32) (hkd : ¬ knd = 3) (hk : S.2.2.2 < 128) : xk_V l yX2_take wsX2_take rm_X2_take_s xs_X D classes [(cI, .int), (cL, .long)] [.ref h0, .int b] [(h0, .inr (2, [.ref h1, .ref h2, .ref h3, .int rdy, .int opn, .int knd, .int cnt])), (h1, .inr (0, [.ref h4, .ref h5, .ref h6, .int (nI S.2.2.2)])), (h4, .inl (cI, 16, .inl S.1)), (h5, .inl (cI, 16, .inl S.2.1)), (h6, .inl (cI, 160, .inl S.2.2.1))] [(h0, .inr (2, [.ref h1, .ref h2, .ref h3, .int rdy, .int opn, .int knd, .int (cnt + 1)])), (h1, .inr (0, [.ref h4, .ref h5, .ref h6, .int (nI ((jc_take xs_CR S b).2.2.2))])), (h4, .inl (cI, 16, .inl ((jc_take xs_CR S b).1))), (h5, .inl (cI, 16, .inl ((jc_take xs_CR S b).2.1))), (h6, .inl (cI, 160, .inl ((jc_take xs_CR S b).2.2.1)))] sz := by
  refine xk_entV (cc := cX2_take) (maxL := 2) (by decide) rfl (Nat.le_of_ble_eq_true rfl) ?_
  intro p e s m args below meth co Q A ls hx hb hml hts hown hA hK hP hD hS hX ret hl
  have hl : lv_has ls 2 [(0, .ref h0), (1, .int b)] := hl
  have hi_0 : ∀ w ∈ u_ws RX0 TX0 4, w ∈ wsX2_take := by decide +kernel
  have hi_2 : ∀ w ∈ u_ws RX2 TX2 7, w ∈ wsX2_take := by decide +kernel
  have fl_34 := hts (.fieldLink RX2 34 "WideHash" "kind" "I") (by decide +kernel)
  have fl_19 := hts (.fieldLink RX2 19 "WideHash" "sip" "LWideHash$Sip;") (by decide +kernel)
  have fl_10 := hts (.fieldLink RX2 10 "WideHash" "sha" "LWideHash$Sha;") (by decide +kernel)
  have fl_38 := hts (.fieldLink RX2 38 "WideHash" "count" "I") (by decide +kernel)
  refine lv_aload_n hx hb dX2_take_0 rfl (lv_at hl 0 rfl) ?_
  refine va_get (D := D) (ci := 2) (v := .int knd) (C := RX2) (T := TX2) (N := 7) hx hb hts hi_2 hown hK hP 0 rfl rfl 5 (by decide) fl_34 (fun _ h9 => h9) rfl dX2_take_1 ?_
  refine lv_iconst (v := 3) hx hb dX2_take_4 (by decide) ?_
  refine lv_icmp_ne (tgt := 19) hx hb dX2_take_5 (by decide) (fun c => ?_) (fun c => ?_)
  · refine lv_aload_n hx hb dX2_take_19 rfl (lv_at hl 0 rfl) ?_
    refine va_get (D := D) (ci := 2) (v := .ref h1) (C := RX2) (T := TX2) (N := 7) hx hb hts hi_2 hown hK hP 0 rfl rfl 0 (by decide) fl_10 (fun _ h9 => h9) rfl dX2_take_20 ?_
    refine lv_iload_n hx hb dX2_take_23 rfl (lv_at hl 1 rfl) ?_
    refine xk_goV (wr := [(h0, .inr (2, [.ref h1, .ref h2, .ref h3, .int rdy, .int opn, .int knd, .int cnt]))]) (w2 := [(h0, .inr (2, [.ref h1, .ref h2, .ref h3, .int rdy, .int opn, .int knd, .int cnt])), (h1, .inr (0, [.ref h4, .ref h5, .ref h6, .int (nI ((jc_take xs_CR S b).2.2.2))])), (h4, .inl (cI, 16, .inl ((jc_take xs_CR S b).1))), (h5, .inl (cI, 16, .inl ((jc_take xs_CR S b).2.1))), (h6, .inl (cI, 160, .inl ((jc_take xs_CR S b).2.2.1)))]) (va_runV (As := [.int b]) (rest := []) ⟨hx, hb, hml, hown, hts⟩ (c_X0_take l D cI cL s.heap.size h1 h4 h5 h6 S b (by omega)) (cwV 1 hts gX2_take_X0_take rfl rfl rfl (by decide +kernel) ⟨Nat.le_of_ble_eq_true rfl, Nat.le_of_ble_eq_true rfl⟩) ⟨xk_blind xs_X_ok, va_recv hK hP (ci := 0) (q0 := 1) rfl rfl, xk_at xs_X_ok hX hP hD hK hS hA [1, 2, 3, 4] rfl (by decide) rfl⟩ rfl rfl hl.1 rfl (lv_room (Nat.le_of_ble_eq_true rfl)) dX2_take_24 ⟨Nat.le_of_ble_eq_true rfl, Nat.le_of_ble_eq_true rfl⟩) hP hD hS hA [1, 2, 3, 4] [0] [0, 1, 2, 3, 4] rfl rfl (by decide) (by decide) rfl (by decide) rfl (fun H locs hP hD hS => ?_)
    refine lv_aload_n hx hb dX2_take_27 rfl (lv_at hl 0 rfl) ?_
    refine lv_dup hx hb dX2_take_28 rfl ?_
    refine va_get (D := D) (ci := 2) (v := .int cnt) (C := RX2) (T := TX2) (N := 7) hx hb hts hi_2 hown hK hP 0 rfl rfl 6 (by decide) fl_38 (fun _ h9 => h9) rfl dX2_take_29 ?_
    refine lv_iconst (v := 1) hx hb dX2_take_32 (by decide) ?_
    refine lv_iadd hx hb dX2_take_33 ?_
    refine va_put (D := D) (ci := 2) (v := .int (cnt + 1)) (ty := .int) (C := RX2) (T := TX2) (N := 7) hx hb hts hi_2 tyX2 tyX2_ok nmX2 hown hK hP hD hS 0 rfl rfl 6 (by decide) fl_38 (fun _ h9 => h9) rfl (by decide +kernel) rfl rfl (Nat.le_of_ble_eq_true rfl) dX2_take_34 (fun H locs hP hD hS => ?_)
    have hP : va_P D classes [(h0, .inr (2, [.ref h1, .ref h2, .ref h3, .int rdy, .int opn, .int knd, .int (cnt + 1)])), (h1, .inr (0, [.ref h4, .ref h5, .ref h6, .int (nI ((jc_take xs_CR S b).2.2.2))])), (h4, .inl (cI, 16, .inl ((jc_take xs_CR S b).1))), (h5, .inl (cI, 16, .inl ((jc_take xs_CR S b).2.1))), (h6, .inl (cI, 160, .inl ((jc_take xs_CR S b).2.2.1)))] H := hP
    have hD : va_D A [(h0, .inr (2, [.ref h1, .ref h2, .ref h3, .int rdy, .int opn, .int knd, .int (cnt + 1)])), (h1, .inr (0, [.ref h4, .ref h5, .ref h6, .int (nI ((jc_take xs_CR S b).2.2.2))])), (h4, .inl (cI, 16, .inl ((jc_take xs_CR S b).1))), (h5, .inl (cI, 16, .inl ((jc_take xs_CR S b).2.1))), (h6, .inl (cI, 160, .inl ((jc_take xs_CR S b).2.2.1)))] := hD
    exact ret _ _ _ _ hP hD hS dX2_take_37
  · exact absurd c hkd
abbrev rm_X2_update_no : Room := { frames := 0, cells := 0, slots := 0, locals := 0 }
set_option maxHeartbeats 4000000 in
set_option maxRecDepth 100000 in
theorem c_X2_update_no (l : Launch) (D : va_G) (cI cL : ClassId) (sz : Nat) (h0 : Nat) (h1 : Nat) (h2 : Nat) (h3 : Nat) (rdy : Int32) (opn : Int32) (knd : Int32) (cnt : Int32) (b : Int32) (hno : opn = 0 ∨ b < 0 ∨ ¬ b ≤ 255) : xk_I l yX2_update wsX2_update rm_X2_update_no xk_0 D classes [(cI, .int), (cL, .long)] [.ref h0, .int b] [(h0, .inr (2, [.ref h1, .ref h2, .ref h3, .int rdy, .int opn, .int knd, .int cnt]))] [(h0, .inr (2, [.ref h1, .ref h2, .ref h3, .int rdy, .int opn, .int knd, .int cnt]))] (0) sz := by
  refine xk_entZ (cc := cX2_update) (maxL := 2) (by decide) rfl (Nat.le_of_ble_eq_true rfl) (Or.inl rfl) ?_
  intro p e s m args below meth co Q A ls hx hb hml hts hown hA hK hP hD hS hX ret hl
  have hl : lv_has ls 2 [(0, .ref h0), (1, .int b)] := hl
  have hi_2 : ∀ w ∈ u_ws RX2 TX2 7, w ∈ wsX2_update := by decide +kernel
  have fl_31 := hts (.fieldLink RX2 31 "WideHash" "open" "Z") (by decide +kernel)
  refine lv_aload_n hx hb dX2_update_0 rfl (lv_at hl 0 rfl) ?_
  refine va_get (D := D) (ci := 2) (v := .int opn) (C := RX2) (T := TX2) (N := 7) hx hb hts hi_2 hown hK hP 0 rfl rfl 4 (by decide) fl_31 (fun _ h9 => h9) rfl dX2_update_1 ?_
  refine lv_if_eq (tgt := 18) hx hb dX2_update_4 (by decide) (fun c1 => ?_) (fun c1 => ?_)
  · refine lv_iconst (v := 0) hx hb dX2_update_18 (by decide) ?_
    exact ret _ _ _ _ _ rfl hP hD hS dX2_update_19
  · refine lv_iload_n hx hb dX2_update_7 rfl (lv_at hl 1 rfl) ?_
    refine lv_if_lt (tgt := 18) hx hb dX2_update_8 (by decide) (fun c2 => ?_) (fun c2 => ?_)
    · refine lv_iconst (v := 0) hx hb dX2_update_18 (by decide) ?_
      exact ret _ _ _ _ _ rfl hP hD hS dX2_update_19
    · refine lv_iload_n hx hb dX2_update_11 rfl (lv_at hl 1 rfl) ?_
      refine lv_sipush (v := 255) hx hb dX2_update_12 (by decide) ?_
      refine lv_icmp_le (tgt := 20) hx hb dX2_update_15 (by decide) (fun c3 => ?_) (fun c3 => ?_)
      · exact hno.elim (fun h => absurd h c1) (fun h => h.elim (fun h => absurd h c2) (fun h => absurd c3 h))
      · refine lv_iconst (v := 0) hx hb dX2_update_18 (by decide) ?_
        exact ret _ _ _ _ _ rfl hP hD hS dX2_update_19
abbrev rm_X2_update_p : Room := { frames := 7, cells := 0, slots := 0, locals := 154 }
set_option maxHeartbeats 4000000 in
set_option maxRecDepth 100000 in
theorem c_X2_update_p (l : Launch) (D : va_G) (cI cL : ClassId) (sz : Nat) (h0 : Nat) (h1 : Nat) (h2 : Nat) (h3 : Nat) (h7 : Nat) (rdy : Int32) (cnt : Int32) (S : xp_S) (b : Int32) (hb0 : ¬ b < 0) (hb1 : b ≤ 255) (hk : S.2.2.2 < 8) : xk_I l yX2_update wsX2_update rm_X2_update_p xs_X D classes [(cI, .int), (cL, .long)] [.ref h0, .int b] [(h0, .inr (2, [.ref h1, .ref h2, .ref h3, .int rdy, .int 1, .int 3, .int cnt])), (h2, .inr (1, [.ref h7, .int S.2.1, .int S.2.2.1, .int (nI S.2.2.2)])), (h7, .inl (cI, 8, .inl S.1))] [(h0, .inr (2, [.ref h1, .ref h2, .ref h3, .int rdy, .int 1, .int 3, .int (cnt + 1)])), (h2, .inr (1, [.ref h7, .int ((jc_ptake S b).2.1), .int ((jc_ptake S b).2.2.1), .int (nI ((jc_ptake S b).2.2.2))])), (h7, .inl (cI, 8, .inl ((jc_ptake S b).1)))] (1) sz := by
  refine xk_entZ (cc := cX2_update) (maxL := 2) (by decide) rfl (Nat.le_of_ble_eq_true rfl) (Or.inr rfl) ?_
  intro p e s m args below meth co Q A ls hx hb hml hts hown hA hK hP hD hS hX ret hl
  have hl : lv_has ls 2 [(0, .ref h0), (1, .int b)] := hl
  have hi_1 : ∀ w ∈ u_ws RX1 TX1 4, w ∈ wsX2_update := by decide +kernel
  have hi_2 : ∀ w ∈ u_ws RX2 TX2 7, w ∈ wsX2_update := by decide +kernel
  have fl_31 := hts (.fieldLink RX2 31 "WideHash" "open" "Z") (by decide +kernel)
  refine lv_aload_n hx hb dX2_update_0 rfl (lv_at hl 0 rfl) ?_
  refine va_get (D := D) (ci := 2) (v := .int 1) (C := RX2) (T := TX2) (N := 7) hx hb hts hi_2 hown hK hP 0 rfl rfl 4 (by decide) fl_31 (fun _ h9 => h9) rfl dX2_update_1 ?_
  refine lv_if_eq (tgt := 18) hx hb dX2_update_4 (by decide) (fun c => ?_) (fun c => ?_)
  · exact absurd c (by decide)
  · refine lv_iload_n hx hb dX2_update_7 rfl (lv_at hl 1 rfl) ?_
    refine lv_if_lt (tgt := 18) hx hb dX2_update_8 (by decide) (fun c => ?_) (fun c => ?_)
    · exact absurd c hb0
    · refine lv_iload_n hx hb dX2_update_11 rfl (lv_at hl 1 rfl) ?_
      refine lv_sipush (v := 255) hx hb dX2_update_12 (by decide) ?_
      refine lv_icmp_le (tgt := 20) hx hb dX2_update_15 (by decide) (fun c => ?_) (fun c => ?_)
      · refine lv_aload_n hx hb dX2_update_20 rfl (lv_at hl 0 rfl) ?_
        refine lv_iload_n hx hb dX2_update_21 rfl (lv_at hl 1 rfl) ?_
        refine xk_goV (wr := []) (w2 := [(h0, .inr (2, [.ref h1, .ref h2, .ref h3, .int rdy, .int 1, .int 3, .int (cnt + 1)])), (h2, .inr (1, [.ref h7, .int ((jc_ptake S b).2.1), .int ((jc_ptake S b).2.2.1), .int (nI ((jc_ptake S b).2.2.2))])), (h7, .inl (cI, 8, .inl ((jc_ptake S b).1)))]) (va_runV (As := [.int b]) (rest := []) ⟨hx, hb, hml, hown, hts⟩ (c_X2_take_p l D cI cL s.heap.size h0 h1 h2 h3 h7 rdy 1 cnt S b (by omega)) (cwV 1 hts gX2_update_X2_take rfl rfl rfl (by decide +kernel) ⟨Nat.le_of_ble_eq_true rfl, Nat.le_of_ble_eq_true rfl⟩) ⟨xk_blind xs_X_ok, va_recv hK hP (ci := 2) (q0 := 0) rfl rfl, xk_at xs_X_ok hX hP hD hK hS hA [0, 1, 2] rfl (by decide) rfl⟩ rfl rfl hl.1 rfl (lv_room (Nat.le_of_ble_eq_true rfl)) dX2_update_22 ⟨Nat.le_of_ble_eq_true rfl, Nat.le_of_ble_eq_true rfl⟩) hP hD hS hA [0, 1, 2] [] [0, 1, 2] rfl rfl (by decide) (by decide) rfl (by decide) rfl (fun H locs hP hD hS => ?_)
        refine lv_iconst (v := 1) hx hb dX2_update_25 (by decide) ?_
        exact ret _ _ _ _ _ rfl hP hD hS dX2_update_26
      · exact absurd hb1 c
abbrev rm_X2_update_s : Room := { frames := 6, cells := 0, slots := 0, locals := 135 }
set_option maxHeartbeats 4000000 in
set_option maxRecDepth 100000 in
theorem c_X2_update_s (l : Launch) (D : va_G) (cI cL : ClassId) (sz : Nat) (h0 : Nat) (h1 : Nat) (h2 : Nat) (h3 : Nat) (h4 : Nat) (h5 : Nat) (h6 : Nat) (rdy : Int32) (knd : Int32) (cnt : Int32) (S : xs_S) (b : Int32) (hb0 : ¬ b < 0) (hb1 : b ≤ 255) (hkd : ¬ knd = 3) (hk : S.2.2.2 < 128) : xk_I l yX2_update wsX2_update rm_X2_update_s xs_X D classes [(cI, .int), (cL, .long)] [.ref h0, .int b] [(h0, .inr (2, [.ref h1, .ref h2, .ref h3, .int rdy, .int 1, .int knd, .int cnt])), (h1, .inr (0, [.ref h4, .ref h5, .ref h6, .int (nI S.2.2.2)])), (h4, .inl (cI, 16, .inl S.1)), (h5, .inl (cI, 16, .inl S.2.1)), (h6, .inl (cI, 160, .inl S.2.2.1))] [(h0, .inr (2, [.ref h1, .ref h2, .ref h3, .int rdy, .int 1, .int knd, .int (cnt + 1)])), (h1, .inr (0, [.ref h4, .ref h5, .ref h6, .int (nI ((jc_take xs_CR S b).2.2.2))])), (h4, .inl (cI, 16, .inl ((jc_take xs_CR S b).1))), (h5, .inl (cI, 16, .inl ((jc_take xs_CR S b).2.1))), (h6, .inl (cI, 160, .inl ((jc_take xs_CR S b).2.2.1)))] (1) sz := by
  refine xk_entZ (cc := cX2_update) (maxL := 2) (by decide) rfl (Nat.le_of_ble_eq_true rfl) (Or.inr rfl) ?_
  intro p e s m args below meth co Q A ls hx hb hml hts hown hA hK hP hD hS hX ret hl
  have hl : lv_has ls 2 [(0, .ref h0), (1, .int b)] := hl
  have hi_0 : ∀ w ∈ u_ws RX0 TX0 4, w ∈ wsX2_update := by decide +kernel
  have hi_2 : ∀ w ∈ u_ws RX2 TX2 7, w ∈ wsX2_update := by decide +kernel
  have fl_31 := hts (.fieldLink RX2 31 "WideHash" "open" "Z") (by decide +kernel)
  refine lv_aload_n hx hb dX2_update_0 rfl (lv_at hl 0 rfl) ?_
  refine va_get (D := D) (ci := 2) (v := .int 1) (C := RX2) (T := TX2) (N := 7) hx hb hts hi_2 hown hK hP 0 rfl rfl 4 (by decide) fl_31 (fun _ h9 => h9) rfl dX2_update_1 ?_
  refine lv_if_eq (tgt := 18) hx hb dX2_update_4 (by decide) (fun c => ?_) (fun c => ?_)
  · exact absurd c (by decide)
  · refine lv_iload_n hx hb dX2_update_7 rfl (lv_at hl 1 rfl) ?_
    refine lv_if_lt (tgt := 18) hx hb dX2_update_8 (by decide) (fun c => ?_) (fun c => ?_)
    · exact absurd c hb0
    · refine lv_iload_n hx hb dX2_update_11 rfl (lv_at hl 1 rfl) ?_
      refine lv_sipush (v := 255) hx hb dX2_update_12 (by decide) ?_
      refine lv_icmp_le (tgt := 20) hx hb dX2_update_15 (by decide) (fun c => ?_) (fun c => ?_)
      · refine lv_aload_n hx hb dX2_update_20 rfl (lv_at hl 0 rfl) ?_
        refine lv_iload_n hx hb dX2_update_21 rfl (lv_at hl 1 rfl) ?_
        refine xk_goV (wr := []) (w2 := [(h0, .inr (2, [.ref h1, .ref h2, .ref h3, .int rdy, .int 1, .int knd, .int (cnt + 1)])), (h1, .inr (0, [.ref h4, .ref h5, .ref h6, .int (nI ((jc_take xs_CR S b).2.2.2))])), (h4, .inl (cI, 16, .inl ((jc_take xs_CR S b).1))), (h5, .inl (cI, 16, .inl ((jc_take xs_CR S b).2.1))), (h6, .inl (cI, 160, .inl ((jc_take xs_CR S b).2.2.1)))]) (va_runV (As := [.int b]) (rest := []) ⟨hx, hb, hml, hown, hts⟩ (c_X2_take_s l D cI cL s.heap.size h0 h1 h2 h3 h4 h5 h6 rdy 1 knd cnt S b hkd (by omega)) (cwV 1 hts gX2_update_X2_take rfl rfl rfl (by decide +kernel) ⟨Nat.le_of_ble_eq_true rfl, Nat.le_of_ble_eq_true rfl⟩) ⟨xk_blind xs_X_ok, va_recv hK hP (ci := 2) (q0 := 0) rfl rfl, xk_at xs_X_ok hX hP hD hK hS hA [0, 1, 2, 3, 4] rfl (by decide) rfl⟩ rfl rfl hl.1 rfl (lv_room (Nat.le_of_ble_eq_true rfl)) dX2_update_22 ⟨Nat.le_of_ble_eq_true rfl, Nat.le_of_ble_eq_true rfl⟩) hP hD hS hA [0, 1, 2, 3, 4] [] [0, 1, 2, 3, 4] rfl rfl (by decide) (by decide) rfl (by decide) rfl (fun H locs hP hD hS => ?_)
        refine lv_iconst (v := 1) hx hb dX2_update_25 (by decide) ?_
        exact ret _ _ _ _ _ rfl hP hD hS dX2_update_26
      · exact absurd hb1 c
