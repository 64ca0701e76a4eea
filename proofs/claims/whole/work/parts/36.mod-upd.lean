abbrev rm_X3_update_nb : Room := { frames := 0, cells := 0, slots := 0, locals := 0 }
set_option maxHeartbeats 4000000 in
set_option maxRecDepth 100000 in
theorem c_X3_update_nb (l : Launch) (D : va_G) (cI cL : ClassId) (sz : Nat) (m0 : Nat) (m1 : Nat) (m2 : Nat) (m3 : Nat) (m4 : Nat) (m5 : Nat) (m6 : Nat) (m7 : Nat) (m8 : Nat) (m9 : Nat) (m10 : Nat) (rd : Int32) (md : Int32) (cd : Int32) (ln : Int32) (pp : Int64) (qq : Int64) (hd : Int32) (b : Int32) (hno : b < 0 ∨ 255 < b) : xk_I l yX3_update wsX3_update rm_X3_update_nb xk_0 D classes [(cI, .int), (cL, .long)] [.ref m0, .int b] [(m0, .inr (3, [.int rd, .int md, .int cd, .int ln, .ref m1, .long pp, .long qq, .ref m2, .int hd, .ref m3, .ref m4, .ref m5, .ref m6, .ref m7, .ref m8, .ref m9, .ref m10]))] [(m0, .inr (3, [.int rd, .int md, .int cd, .int ln, .ref m1, .long pp, .long qq, .ref m2, .int hd, .ref m3, .ref m4, .ref m5, .ref m6, .ref m7, .ref m8, .ref m9, .ref m10]))] (0) sz := by
  refine xk_entZ (cc := cX3_update) (maxL := 2) (by decide) rfl (Nat.le_of_ble_eq_true rfl) (Or.inl rfl) ?_
  intro p e s m args below meth co Q A ls hx hb hml hts hown hA hK hP hD hS hX ret hl
  have hl : lv_has ls 2 [(0, .ref m0), (1, .int b)] := hl
  have hi_3 : ∀ w ∈ u_ws RX3 TX3 17, w ∈ wsX3_update := by decide +kernel
  have fl_89 := hts (.fieldLink RX3 89 "WideHashModel" "length" "I") (by decide +kernel)
  refine lv_iload_n hx hb dX3_update_0 rfl (lv_at hl 1 rfl) ?_
  refine lv_if_lt (tgt := 18) hx hb dX3_update_1 (by decide) (fun c1 => ?_) (fun c1 => ?_)
  · refine lv_iconst (v := 0) hx hb dX3_update_18 (by decide) ?_
    exact ret _ _ _ _ _ rfl hP hD hS dX3_update_19
  · refine lv_iload_n hx hb dX3_update_4 rfl (lv_at hl 1 rfl) ?_
    refine lv_sipush (v := 255) hx hb dX3_update_5 (by decide) ?_
    refine lv_icmp_gt (tgt := 18) hx hb dX3_update_8 (by decide) (fun c2 => ?_) (fun c2 => ?_)
    · refine lv_iconst (v := 0) hx hb dX3_update_18 (by decide) ?_
      exact ret _ _ _ _ _ rfl hP hD hS dX3_update_19
    · exact hno.elim (fun h => absurd h c1) (fun h => absurd h c2)
abbrev rm_X3_update_nc : Room := { frames := 1, cells := 0, slots := 0, locals := 20 }
set_option maxHeartbeats 4000000 in
set_option maxRecDepth 100000 in
theorem c_X3_update_nc (l : Launch) (D : va_G) (cI cL : ClassId) (sz : Nat) (m0 : Nat) (m1 : Nat) (m2 : Nat) (m3 : Nat) (m4 : Nat) (m5 : Nat) (m6 : Nat) (m7 : Nat) (m8 : Nat) (m9 : Nat) (m10 : Nat) (rd : Int32) (md : Int32) (cd : Int32) (ln : Int32) (pp : Int64) (qq : Int64) (hd : Int32) (b : Int32) (hno : md ≤ 0 ∨ ¬ cd = 0) : xk_I l yX3_update wsX3_update rm_X3_update_nc xk_0 D classes [(cI, .int), (cL, .long)] [.ref m0, .int b] [(m0, .inr (3, [.int rd, .int md, .int cd, .int ln, .ref m1, .long pp, .long qq, .ref m2, .int hd, .ref m3, .ref m4, .ref m5, .ref m6, .ref m7, .ref m8, .ref m9, .ref m10]))] [(m0, .inr (3, [.int rd, .int md, .int cd, .int ln, .ref m1, .long pp, .long qq, .ref m2, .int hd, .ref m3, .ref m4, .ref m5, .ref m6, .ref m7, .ref m8, .ref m9, .ref m10]))] (0) sz := by
  refine xk_entZ (cc := cX3_update) (maxL := 2) (by decide) rfl (Nat.le_of_ble_eq_true rfl) (Or.inl rfl) ?_
  intro p e s m args below meth co Q A ls hx hb hml hts hown hA hK hP hD hS hX ret hl
  have hl : lv_has ls 2 [(0, .ref m0), (1, .int b)] := hl
  have hi_3 : ∀ w ∈ u_ws RX3 TX3 17, w ∈ wsX3_update := by decide +kernel
  have fl_89 := hts (.fieldLink RX3 89 "WideHashModel" "length" "I") (by decide +kernel)
  refine lv_iload_n hx hb dX3_update_0 rfl (lv_at hl 1 rfl) ?_
  refine lv_if_lt (tgt := 18) hx hb dX3_update_1 (by decide) (fun c1 => ?_) (fun c1 => ?_)
  · refine lv_iconst (v := 0) hx hb dX3_update_18 (by decide) ?_
    exact ret _ _ _ _ _ rfl hP hD hS dX3_update_19
  · refine lv_iload_n hx hb dX3_update_4 rfl (lv_at hl 1 rfl) ?_
    refine lv_sipush (v := 255) hx hb dX3_update_5 (by decide) ?_
    refine lv_icmp_gt (tgt := 18) hx hb dX3_update_8 (by decide) (fun c2 => ?_) (fun c2 => ?_)
    · refine lv_iconst (v := 0) hx hb dX3_update_18 (by decide) ?_
      exact ret _ _ _ _ _ rfl hP hD hS dX3_update_19
    · refine lv_aload_n hx hb dX3_update_11 rfl (lv_at hl 0 rfl) ?_
      refine xk_goI (r := 0) (wr := []) (w2 := [(m0, .inr (3, [.int rd, .int md, .int cd, .int ln, .ref m1, .long pp, .long qq, .ref m2, .int hd, .ref m3, .ref m4, .ref m5, .ref m6, .ref m7, .ref m8, .ref m9, .ref m10]))]) (va_runV (As := []) (rest := []) ⟨hx, hb, hml, hown, hts⟩ (c_X3_isOpen_no l D cI cL s.heap.size m0 m1 m2 m3 m4 m5 m6 m7 m8 m9 m10 rd md cd ln pp qq hd hno) (cwV 0 hts gX3_update_X3_isOpen rfl rfl rfl (by decide +kernel) ⟨Nat.le_of_ble_eq_true rfl, Nat.le_of_ble_eq_true rfl⟩) ⟨xk_blind xk_0_ok, va_recv hK hP (ci := 3) (q0 := 0) rfl rfl, xk_at xk_0_ok trivial hP hD hK hS hA [0] rfl (by decide) rfl⟩ rfl rfl hl.1 rfl (lv_room (Nat.le_of_ble_eq_true rfl)) dX3_update_12 ⟨Nat.le_of_ble_eq_true rfl, Nat.le_of_ble_eq_true rfl⟩) hP hD hS hA [0] [] [0] rfl rfl (by decide) (by decide) rfl (by decide) rfl (fun H locs hP hD hS => ?_)
      refine lv_if_ne (tgt := 20) hx hb dX3_update_15 (by decide) (fun c3 => ?_) (fun c3 => ?_)
      · exact absurd rfl c3
      · refine lv_iconst (v := 0) hx hb dX3_update_18 (by decide) ?_
        exact ret _ _ _ _ _ rfl hP hD hS dX3_update_19
abbrev rm_X3_updates_nb : Room := { frames := 0, cells := 0, slots := 0, locals := 0 }
set_option maxHeartbeats 4000000 in
set_option maxRecDepth 100000 in
theorem c_X3_updates_nb (l : Launch) (D : va_G) (cI cL : ClassId) (sz : Nat) (m0 : Nat) (m1 : Nat) (m2 : Nat) (m3 : Nat) (m4 : Nat) (m5 : Nat) (m6 : Nat) (m7 : Nat) (m8 : Nat) (m9 : Nat) (m10 : Nat) (rd : Int32) (md : Int32) (cd : Int32) (ln : Int32) (pp : Int64) (qq : Int64) (hd : Int32) (n : Int32) (b : Int32) (sp : Int32) (hno : n < 0 ∨ 2000 < n) : xk_I l yX3_updates wsX3_updates rm_X3_updates_nb xk_0 D classes [(cI, .int), (cL, .long)] [.ref m0, .int n, .int b, .int sp] [(m0, .inr (3, [.int rd, .int md, .int cd, .int ln, .ref m1, .long pp, .long qq, .ref m2, .int hd, .ref m3, .ref m4, .ref m5, .ref m6, .ref m7, .ref m8, .ref m9, .ref m10]))] [(m0, .inr (3, [.int rd, .int md, .int cd, .int ln, .ref m1, .long pp, .long qq, .ref m2, .int hd, .ref m3, .ref m4, .ref m5, .ref m6, .ref m7, .ref m8, .ref m9, .ref m10]))] (0) sz := by
  refine xk_entZ (cc := cX3_updates) (maxL := 5) (by decide) rfl (Nat.le_of_ble_eq_true rfl) (Or.inl rfl) ?_
  intro p e s m args below meth co Q A ls hx hb hml hts hown hA hK hP hD hS hX ret hl
  have hl : lv_has ls 5 [(0, .ref m0), (1, .int n), (2, .int b), (3, .int sp)] := hl
  have hi_3 : ∀ w ∈ u_ws RX3 TX3 17, w ∈ wsX3_updates := by decide +kernel
  have fl_89 := hts (.fieldLink RX3 89 "WideHashModel" "length" "I") (by decide +kernel)
  refine lv_iload_n hx hb dX3_updates_0 rfl (lv_at hl 1 rfl) ?_
  refine lv_if_lt (tgt := 18) hx hb dX3_updates_1 (by decide) (fun c1 => ?_) (fun c1 => ?_)
  · refine lv_iconst (v := 0) hx hb dX3_updates_18 (by decide) ?_
    exact ret _ _ _ _ _ rfl hP hD hS dX3_updates_19
  · refine lv_iload_n hx hb dX3_updates_4 rfl (lv_at hl 1 rfl) ?_
    refine lv_sipush (v := 2000) hx hb dX3_updates_5 (by decide) ?_
    refine lv_icmp_gt (tgt := 18) hx hb dX3_updates_8 (by decide) (fun c2 => ?_) (fun c2 => ?_)
    · refine lv_iconst (v := 0) hx hb dX3_updates_18 (by decide) ?_
      exact ret _ _ _ _ _ rfl hP hD hS dX3_updates_19
    · exact hno.elim (fun h => absurd h c1) (fun h => absurd h c2)
abbrev rm_X3_updates_nc : Room := { frames := 1, cells := 0, slots := 0, locals := 20 }
set_option maxHeartbeats 4000000 in
set_option maxRecDepth 100000 in
theorem c_X3_updates_nc (l : Launch) (D : va_G) (cI cL : ClassId) (sz : Nat) (m0 : Nat) (m1 : Nat) (m2 : Nat) (m3 : Nat) (m4 : Nat) (m5 : Nat) (m6 : Nat) (m7 : Nat) (m8 : Nat) (m9 : Nat) (m10 : Nat) (rd : Int32) (md : Int32) (cd : Int32) (ln : Int32) (pp : Int64) (qq : Int64) (hd : Int32) (n : Int32) (b : Int32) (sp : Int32) (hno : md ≤ 0 ∨ ¬ cd = 0) : xk_I l yX3_updates wsX3_updates rm_X3_updates_nc xk_0 D classes [(cI, .int), (cL, .long)] [.ref m0, .int n, .int b, .int sp] [(m0, .inr (3, [.int rd, .int md, .int cd, .int ln, .ref m1, .long pp, .long qq, .ref m2, .int hd, .ref m3, .ref m4, .ref m5, .ref m6, .ref m7, .ref m8, .ref m9, .ref m10]))] [(m0, .inr (3, [.int rd, .int md, .int cd, .int ln, .ref m1, .long pp, .long qq, .ref m2, .int hd, .ref m3, .ref m4, .ref m5, .ref m6, .ref m7, .ref m8, .ref m9, .ref m10]))] (0) sz := by
  refine xk_entZ (cc := cX3_updates) (maxL := 5) (by decide) rfl (Nat.le_of_ble_eq_true rfl) (Or.inl rfl) ?_
  intro p e s m args below meth co Q A ls hx hb hml hts hown hA hK hP hD hS hX ret hl
  have hl : lv_has ls 5 [(0, .ref m0), (1, .int n), (2, .int b), (3, .int sp)] := hl
  have hi_3 : ∀ w ∈ u_ws RX3 TX3 17, w ∈ wsX3_updates := by decide +kernel
  have fl_89 := hts (.fieldLink RX3 89 "WideHashModel" "length" "I") (by decide +kernel)
  refine lv_iload_n hx hb dX3_updates_0 rfl (lv_at hl 1 rfl) ?_
  refine lv_if_lt (tgt := 18) hx hb dX3_updates_1 (by decide) (fun c1 => ?_) (fun c1 => ?_)
  · refine lv_iconst (v := 0) hx hb dX3_updates_18 (by decide) ?_
    exact ret _ _ _ _ _ rfl hP hD hS dX3_updates_19
  · refine lv_iload_n hx hb dX3_updates_4 rfl (lv_at hl 1 rfl) ?_
    refine lv_sipush (v := 2000) hx hb dX3_updates_5 (by decide) ?_
    refine lv_icmp_gt (tgt := 18) hx hb dX3_updates_8 (by decide) (fun c2 => ?_) (fun c2 => ?_)
    · refine lv_iconst (v := 0) hx hb dX3_updates_18 (by decide) ?_
      exact ret _ _ _ _ _ rfl hP hD hS dX3_updates_19
    · refine lv_aload_n hx hb dX3_updates_11 rfl (lv_at hl 0 rfl) ?_
      refine xk_goI (r := 0) (wr := []) (w2 := [(m0, .inr (3, [.int rd, .int md, .int cd, .int ln, .ref m1, .long pp, .long qq, .ref m2, .int hd, .ref m3, .ref m4, .ref m5, .ref m6, .ref m7, .ref m8, .ref m9, .ref m10]))]) (va_runV (As := []) (rest := []) ⟨hx, hb, hml, hown, hts⟩ (c_X3_isOpen_no l D cI cL s.heap.size m0 m1 m2 m3 m4 m5 m6 m7 m8 m9 m10 rd md cd ln pp qq hd hno) (cwV 0 hts gX3_updates_X3_isOpen rfl rfl rfl (by decide +kernel) ⟨Nat.le_of_ble_eq_true rfl, Nat.le_of_ble_eq_true rfl⟩) ⟨xk_blind xk_0_ok, va_recv hK hP (ci := 3) (q0 := 0) rfl rfl, xk_at xk_0_ok trivial hP hD hK hS hA [0] rfl (by decide) rfl⟩ rfl rfl hl.1 rfl (lv_room (Nat.le_of_ble_eq_true rfl)) dX3_updates_12 ⟨Nat.le_of_ble_eq_true rfl, Nat.le_of_ble_eq_true rfl⟩) hP hD hS hA [0] [] [0] rfl rfl (by decide) (by decide) rfl (by decide) rfl (fun H locs hP hD hS => ?_)
      refine lv_if_ne (tgt := 20) hx hb dX3_updates_15 (by decide) (fun c3 => ?_) (fun c3 => ?_)
      · exact absurd rfl c3
      · refine lv_iconst (v := 0) hx hb dX3_updates_18 (by decide) ?_
        exact ret _ _ _ _ _ rfl hP hD hS dX3_updates_19
abbrev rm_X3_update_p : Room := { frames := 5, cells := 0, slots := 0, locals := 111 }
set_option maxHeartbeats 4000000 in
set_option maxRecDepth 100000 in
theorem c_X3_update_p (l : Launch) (D : va_G) (cI cL : ClassId) (sz : Nat) (m0 : Nat) (m1 : Nat) (m2 : Nat) (m3 : Nat) (m4 : Nat) (m5 : Nat) (m6 : Nat) (m7 : Nat) (m8 : Nat) (m9 : Nat) (m10 : Nat) (rd : Int32) (ln : Int32) (pp : Int64) (qq : Int64) (S : xq_S) (b : Int32) (hb0 : ¬ b < 0) (hb1 : ¬ 255 < b) (hk : S.2.2 < 8) : xk_I l yX3_update wsX3_update rm_X3_update_p xk_0 D classes [(cI, .int), (cL, .long)] [.ref m0, .int b] [(m0, .inr (3, [.int rd, .int 3, .int 0, .int ln, .ref m1, .long pp, .long qq, .ref m2, .int (nI S.2.2), .ref m3, .ref m4, .ref m5, .ref m6, .ref m7, .ref m8, .ref m9, .ref m10])), (m2, .inl (cI, 128, .inl S.2.1)), (m3, .inl (cL, 8, .inr (.inl S.1)))] [(m0, .inr (3, [.int rd, .int 3, .int 0, .int (ln + 1), .ref m1, .long pp, .long qq, .ref m2, .int (nI ((mo_ptake S b).2.2)), .ref m3, .ref m4, .ref m5, .ref m6, .ref m7, .ref m8, .ref m9, .ref m10])), (m2, .inl (cI, 128, .inl ((mo_ptake S b).2.1))), (m3, .inl (cL, 8, .inr (.inl ((mo_ptake S b).1))))] (1) sz := by
  refine xk_entZ (cc := cX3_update) (maxL := 2) (by decide) rfl (Nat.le_of_ble_eq_true rfl) (Or.inr rfl) ?_
  intro p e s m args below meth co Q A ls hx hb hml hts hown hA hK hP hD hS hX ret hl
  have hl : lv_has ls 2 [(0, .ref m0), (1, .int b)] := hl
  have hi_3 : ∀ w ∈ u_ws RX3 TX3 17, w ∈ wsX3_update := by decide +kernel
  have fl_89 := hts (.fieldLink RX3 89 "WideHashModel" "length" "I") (by decide +kernel)
  refine lv_iload_n hx hb dX3_update_0 rfl (lv_at hl 1 rfl) ?_
  refine lv_if_lt (tgt := 18) hx hb dX3_update_1 (by decide) (fun c => ?_) (fun c => ?_)
  · exact absurd c hb0
  · refine lv_iload_n hx hb dX3_update_4 rfl (lv_at hl 1 rfl) ?_
    refine lv_sipush (v := 255) hx hb dX3_update_5 (by decide) ?_
    refine lv_icmp_gt (tgt := 18) hx hb dX3_update_8 (by decide) (fun c => ?_) (fun c => ?_)
    · exact absurd c hb1
    · refine lv_aload_n hx hb dX3_update_11 rfl (lv_at hl 0 rfl) ?_
      refine xk_goI (r := 1) (wr := [(m2, .inl (cI, 128, .inl S.2.1)), (m3, .inl (cL, 8, .inr (.inl S.1)))]) (w2 := [(m0, .inr (3, [.int rd, .int 3, .int 0, .int ln, .ref m1, .long pp, .long qq, .ref m2, .int (nI S.2.2), .ref m3, .ref m4, .ref m5, .ref m6, .ref m7, .ref m8, .ref m9, .ref m10])), (m2, .inl (cI, 128, .inl S.2.1)), (m3, .inl (cL, 8, .inr (.inl S.1)))]) (va_runV (As := []) (rest := []) ⟨hx, hb, hml, hown, hts⟩ (c_X3_isOpen_y l D cI cL s.heap.size m0 m1 m2 m3 m4 m5 m6 m7 m8 m9 m10 rd 3 ln pp qq (nI S.2.2) (by decide)) (cwV 0 hts gX3_update_X3_isOpen rfl rfl rfl (by decide +kernel) ⟨Nat.le_of_ble_eq_true rfl, Nat.le_of_ble_eq_true rfl⟩) ⟨xk_blind xk_0_ok, va_recv hK hP (ci := 3) (q0 := 0) rfl rfl, xk_at xk_0_ok trivial hP hD hK hS hA [0] rfl (by decide) rfl⟩ rfl rfl hl.1 rfl (lv_room (Nat.le_of_ble_eq_true rfl)) dX3_update_12 ⟨Nat.le_of_ble_eq_true rfl, Nat.le_of_ble_eq_true rfl⟩) hP hD hS hA [0] [1, 2] [2, 0, 1] rfl rfl (by decide) (by decide) rfl (by decide) rfl (fun H locs hP hD hS => ?_)
      refine lv_if_ne (tgt := 20) hx hb dX3_update_15 (by decide) (fun c => ?_) (fun c => ?_)
      · refine lv_aload_n hx hb dX3_update_20 rfl (lv_at hl 0 rfl) ?_
        refine lv_iload_n hx hb dX3_update_21 rfl (lv_at hl 1 rfl) ?_
        refine xk_goV (wr := []) (w2 := [(m0, .inr (3, [.int rd, .int 3, .int 0, .int ln, .ref m1, .long pp, .long qq, .ref m2, .int (nI ((mo_ptake S b).2.2)), .ref m3, .ref m4, .ref m5, .ref m6, .ref m7, .ref m8, .ref m9, .ref m10])), (m2, .inl (cI, 128, .inl ((mo_ptake S b).2.1))), (m3, .inl (cL, 8, .inr (.inl ((mo_ptake S b).1))))]) (va_runV (As := [.int b]) (rest := []) ⟨hx, hb, hml, hown, hts⟩ (c_X3_take_p l D cI cL H.size m0 m1 m2 m3 m4 m5 m6 m7 m8 m9 m10 rd 0 ln pp qq S b (by omega)) (cwV 1 hts gX3_update_X3_take rfl rfl rfl (by decide +kernel) ⟨Nat.le_of_ble_eq_true rfl, Nat.le_of_ble_eq_true rfl⟩) ⟨xk_blind xk_0_ok, va_recv hK hP (ci := 3) (q0 := 0) rfl rfl, xk_at xk_0_ok trivial hP hD hK hS hA [0, 1, 2] rfl (by decide) rfl⟩ rfl rfl hl.1 rfl (lv_room (Nat.le_of_ble_eq_true rfl)) dX3_update_22 ⟨Nat.le_of_ble_eq_true rfl, Nat.le_of_ble_eq_true rfl⟩) hP hD hS hA [0, 1, 2] [] [0, 1, 2] rfl rfl (by decide) (by decide) rfl (by decide) rfl (fun H locs hP hD hS => ?_)
        refine lv_aload_n hx hb dX3_update_25 rfl (lv_at hl 0 rfl) ?_
        refine lv_dup hx hb dX3_update_26 rfl ?_
        refine va_get (D := D) (ci := 3) (v := .int ln) (C := RX3) (T := TX3) (N := 17) hx hb hts hi_3 hown hK hP 0 rfl rfl 3 (by decide) fl_89 (fun _ h9 => h9) rfl dX3_update_27 ?_
        refine lv_iconst (v := 1) hx hb dX3_update_30 (by decide) ?_
        refine lv_iadd hx hb dX3_update_31 ?_
        refine va_put (D := D) (ci := 3) (v := .int (ln + 1)) (ty := .int) (C := RX3) (T := TX3) (N := 17) hx hb hts hi_3 tyX3 tyX3_ok nmX3 hown hK hP hD hS 0 rfl rfl 3 (by decide) fl_89 (fun _ h9 => h9) rfl (by decide +kernel) rfl rfl (Nat.le_of_ble_eq_true rfl) dX3_update_32 (fun H locs hP hD hS => ?_)
        have hP : va_P D classes [(m0, .inr (3, [.int rd, .int 3, .int 0, .int (ln + 1), .ref m1, .long pp, .long qq, .ref m2, .int (nI ((mo_ptake S b).2.2)), .ref m3, .ref m4, .ref m5, .ref m6, .ref m7, .ref m8, .ref m9, .ref m10])), (m2, .inl (cI, 128, .inl ((mo_ptake S b).2.1))), (m3, .inl (cL, 8, .inr (.inl ((mo_ptake S b).1))))] H := hP
        have hD : va_D A [(m0, .inr (3, [.int rd, .int 3, .int 0, .int (ln + 1), .ref m1, .long pp, .long qq, .ref m2, .int (nI ((mo_ptake S b).2.2)), .ref m3, .ref m4, .ref m5, .ref m6, .ref m7, .ref m8, .ref m9, .ref m10])), (m2, .inl (cI, 128, .inl ((mo_ptake S b).2.1))), (m3, .inl (cL, 8, .inr (.inl ((mo_ptake S b).1))))] := hD
        refine lv_iconst (v := 1) hx hb dX3_update_35 (by decide) ?_
        exact ret _ _ _ _ _ rfl hP hD hS dX3_update_36
      · exact absurd c (by decide)
abbrev rm_X3_update_s : Room := { frames := 3, cells := 0, slots := 0, locals := 80 }
set_option maxHeartbeats 4000000 in
set_option maxRecDepth 100000 in
theorem c_X3_update_s (l : Launch) (D : va_G) (cI cL : ClassId) (sz : Nat) (m0 : Nat) (m1 : Nat) (m2 : Nat) (m3 : Nat) (m4 : Nat) (m5 : Nat) (m6 : Nat) (m7 : Nat) (m8 : Nat) (m9 : Nat) (m10 : Nat) (rd : Int32) (md : Int32) (ln : Int32) (pp : Int64) (qq : Int64) (cu : Nat → Int64) (S : xm_S) (b : Int32) (hb0 : ¬ b < 0) (hb1 : ¬ 255 < b) (hm : ¬ md ≤ 0) (hkd : ¬ md = 3) (hk : S.2.2.2.2 < 128) : xk_I l yX3_update wsX3_update rm_X3_update_s xk_0 D classes [(cI, .int), (cL, .long)] [.ref m0, .int b] [(m0, .inr (3, [.int rd, .int md, .int 0, .int ln, .ref m1, .long pp, .long qq, .ref m2, .int (nI S.2.2.2.2), .ref m3, .ref m4, .ref m5, .ref m6, .ref m7, .ref m8, .ref m9, .ref m10])), (m2, .inl (cI, 128, .inl S.2.2.2.1)), (m3, .inl (cL, 8, .inr (.inl S.1))), (m4, .inl (cL, 80, .inr (.inl cu))), (m6, .inl (cL, 80, .inr (.inl S.2.1))), (m7, .inl (cL, 8, .inr (.inl S.2.2.1)))] [(m0, .inr (3, [.int rd, .int md, .int 0, .int (ln + 1), .ref m1, .long pp, .long qq, .ref m2, .int (nI ((mo_take cu S b).2.2.2.2)), .ref m3, .ref m4, .ref m5, .ref m6, .ref m7, .ref m8, .ref m9, .ref m10])), (m2, .inl (cI, 128, .inl ((mo_take cu S b).2.2.2.1))), (m3, .inl (cL, 8, .inr (.inl ((mo_take cu S b).1)))), (m4, .inl (cL, 80, .inr (.inl cu))), (m6, .inl (cL, 80, .inr (.inl ((mo_take cu S b).2.1)))), (m7, .inl (cL, 8, .inr (.inl ((mo_take cu S b).2.2.1))))] (1) sz := by
  refine xk_entZ (cc := cX3_update) (maxL := 2) (by decide) rfl (Nat.le_of_ble_eq_true rfl) (Or.inr rfl) ?_
  intro p e s m args below meth co Q A ls hx hb hml hts hown hA hK hP hD hS hX ret hl
  have hl : lv_has ls 2 [(0, .ref m0), (1, .int b)] := hl
  have hi_3 : ∀ w ∈ u_ws RX3 TX3 17, w ∈ wsX3_update := by decide +kernel
  have fl_89 := hts (.fieldLink RX3 89 "WideHashModel" "length" "I") (by decide +kernel)
  refine lv_iload_n hx hb dX3_update_0 rfl (lv_at hl 1 rfl) ?_
  refine lv_if_lt (tgt := 18) hx hb dX3_update_1 (by decide) (fun c => ?_) (fun c => ?_)
  · exact absurd c hb0
  · refine lv_iload_n hx hb dX3_update_4 rfl (lv_at hl 1 rfl) ?_
    refine lv_sipush (v := 255) hx hb dX3_update_5 (by decide) ?_
    refine lv_icmp_gt (tgt := 18) hx hb dX3_update_8 (by decide) (fun c => ?_) (fun c => ?_)
    · exact absurd c hb1
    · refine lv_aload_n hx hb dX3_update_11 rfl (lv_at hl 0 rfl) ?_
      refine xk_goI (r := 1) (wr := [(m2, .inl (cI, 128, .inl S.2.2.2.1)), (m3, .inl (cL, 8, .inr (.inl S.1))), (m4, .inl (cL, 80, .inr (.inl cu))), (m6, .inl (cL, 80, .inr (.inl S.2.1))), (m7, .inl (cL, 8, .inr (.inl S.2.2.1)))]) (w2 := [(m0, .inr (3, [.int rd, .int md, .int 0, .int ln, .ref m1, .long pp, .long qq, .ref m2, .int (nI S.2.2.2.2), .ref m3, .ref m4, .ref m5, .ref m6, .ref m7, .ref m8, .ref m9, .ref m10])), (m2, .inl (cI, 128, .inl S.2.2.2.1)), (m3, .inl (cL, 8, .inr (.inl S.1))), (m4, .inl (cL, 80, .inr (.inl cu))), (m6, .inl (cL, 80, .inr (.inl S.2.1))), (m7, .inl (cL, 8, .inr (.inl S.2.2.1)))]) (va_runV (As := []) (rest := []) ⟨hx, hb, hml, hown, hts⟩ (c_X3_isOpen_y l D cI cL s.heap.size m0 m1 m2 m3 m4 m5 m6 m7 m8 m9 m10 rd md ln pp qq (nI S.2.2.2.2) hm) (cwV 0 hts gX3_update_X3_isOpen rfl rfl rfl (by decide +kernel) ⟨Nat.le_of_ble_eq_true rfl, Nat.le_of_ble_eq_true rfl⟩) ⟨xk_blind xk_0_ok, va_recv hK hP (ci := 3) (q0 := 0) rfl rfl, xk_at xk_0_ok trivial hP hD hK hS hA [0] rfl (by decide) rfl⟩ rfl rfl hl.1 rfl (lv_room (Nat.le_of_ble_eq_true rfl)) dX3_update_12 ⟨Nat.le_of_ble_eq_true rfl, Nat.le_of_ble_eq_true rfl⟩) hP hD hS hA [0] [1, 2, 3, 4, 5] [5, 0, 1, 2, 3, 4] rfl rfl (by decide) (by decide) rfl (by decide) rfl (fun H locs hP hD hS => ?_)
      refine lv_if_ne (tgt := 20) hx hb dX3_update_15 (by decide) (fun c => ?_) (fun c => ?_)
      · refine lv_aload_n hx hb dX3_update_20 rfl (lv_at hl 0 rfl) ?_
        refine lv_iload_n hx hb dX3_update_21 rfl (lv_at hl 1 rfl) ?_
        refine xk_goV (wr := []) (w2 := [(m0, .inr (3, [.int rd, .int md, .int 0, .int ln, .ref m1, .long pp, .long qq, .ref m2, .int (nI ((mo_take cu S b).2.2.2.2)), .ref m3, .ref m4, .ref m5, .ref m6, .ref m7, .ref m8, .ref m9, .ref m10])), (m2, .inl (cI, 128, .inl ((mo_take cu S b).2.2.2.1))), (m3, .inl (cL, 8, .inr (.inl ((mo_take cu S b).1)))), (m4, .inl (cL, 80, .inr (.inl cu))), (m6, .inl (cL, 80, .inr (.inl ((mo_take cu S b).2.1)))), (m7, .inl (cL, 8, .inr (.inl ((mo_take cu S b).2.2.1))))]) (va_runV (As := [.int b]) (rest := []) ⟨hx, hb, hml, hown, hts⟩ (c_X3_take_s l D cI cL H.size m0 m1 m2 m3 m4 m5 m6 m7 m8 m9 m10 rd md 0 ln pp qq cu S b hkd (by omega)) (cwV 1 hts gX3_update_X3_take rfl rfl rfl (by decide +kernel) ⟨Nat.le_of_ble_eq_true rfl, Nat.le_of_ble_eq_true rfl⟩) ⟨xk_blind xk_0_ok, va_recv hK hP (ci := 3) (q0 := 0) rfl rfl, xk_at xk_0_ok trivial hP hD hK hS hA [0, 1, 2, 3, 4, 5] rfl (by decide) rfl⟩ rfl rfl hl.1 rfl (lv_room (Nat.le_of_ble_eq_true rfl)) dX3_update_22 ⟨Nat.le_of_ble_eq_true rfl, Nat.le_of_ble_eq_true rfl⟩) hP hD hS hA [0, 1, 2, 3, 4, 5] [] [0, 1, 2, 3, 4, 5] rfl rfl (by decide) (by decide) rfl (by decide) rfl (fun H locs hP hD hS => ?_)
        refine lv_aload_n hx hb dX3_update_25 rfl (lv_at hl 0 rfl) ?_
        refine lv_dup hx hb dX3_update_26 rfl ?_
        refine va_get (D := D) (ci := 3) (v := .int ln) (C := RX3) (T := TX3) (N := 17) hx hb hts hi_3 hown hK hP 0 rfl rfl 3 (by decide) fl_89 (fun _ h9 => h9) rfl dX3_update_27 ?_
        refine lv_iconst (v := 1) hx hb dX3_update_30 (by decide) ?_
        refine lv_iadd hx hb dX3_update_31 ?_
        refine va_put (D := D) (ci := 3) (v := .int (ln + 1)) (ty := .int) (C := RX3) (T := TX3) (N := 17) hx hb hts hi_3 tyX3 tyX3_ok nmX3 hown hK hP hD hS 0 rfl rfl 3 (by decide) fl_89 (fun _ h9 => h9) rfl (by decide +kernel) rfl rfl (Nat.le_of_ble_eq_true rfl) dX3_update_32 (fun H locs hP hD hS => ?_)
        have hP : va_P D classes [(m0, .inr (3, [.int rd, .int md, .int 0, .int (ln + 1), .ref m1, .long pp, .long qq, .ref m2, .int (nI ((mo_take cu S b).2.2.2.2)), .ref m3, .ref m4, .ref m5, .ref m6, .ref m7, .ref m8, .ref m9, .ref m10])), (m2, .inl (cI, 128, .inl ((mo_take cu S b).2.2.2.1))), (m3, .inl (cL, 8, .inr (.inl ((mo_take cu S b).1)))), (m4, .inl (cL, 80, .inr (.inl cu))), (m6, .inl (cL, 80, .inr (.inl ((mo_take cu S b).2.1)))), (m7, .inl (cL, 8, .inr (.inl ((mo_take cu S b).2.2.1))))] H := hP
        have hD : va_D A [(m0, .inr (3, [.int rd, .int md, .int 0, .int (ln + 1), .ref m1, .long pp, .long qq, .ref m2, .int (nI ((mo_take cu S b).2.2.2.2)), .ref m3, .ref m4, .ref m5, .ref m6, .ref m7, .ref m8, .ref m9, .ref m10])), (m2, .inl (cI, 128, .inl ((mo_take cu S b).2.2.2.1))), (m3, .inl (cL, 8, .inr (.inl ((mo_take cu S b).1)))), (m4, .inl (cL, 80, .inr (.inl cu))), (m6, .inl (cL, 80, .inr (.inl ((mo_take cu S b).2.1)))), (m7, .inl (cL, 8, .inr (.inl ((mo_take cu S b).2.2.1))))] := hD
        refine lv_iconst (v := 1) hx hb dX3_update_35 (by decide) ?_
        exact ret _ _ _ _ _ rfl hP hD hS dX3_update_36
      · exact absurd c (by decide)
abbrev rm_X3_updates_p : Room := { frames := 5, cells := 0, slots := 0, locals := 111 }
set_option maxHeartbeats 4000000 in
set_option maxRecDepth 100000 in
theorem c_X3_updates_p (l : Launch) (D : va_G) (cI cL : ClassId) (sz : Nat) (m0 : Nat) (m1 : Nat) (m2 : Nat) (m3 : Nat) (m4 : Nat) (m5 : Nat) (m6 : Nat) (m7 : Nat) (m8 : Nat) (m9 : Nat) (m10 : Nat) (rd : Int32) (ln : Int32) (pp : Int64) (qq : Int64) (S : xq_S) (n : Nat) (b : Int32) (sp : Int32) (hn : n ≤ 2000) (hk : S.2.2 < 8) : xk_I l yX3_updates wsX3_updates rm_X3_updates_p xk_0 D classes [(cI, .int), (cL, .long)] [.ref m0, .int (nI n), .int b, .int sp] [(m0, .inr (3, [.int rd, .int 3, .int 0, .int ln, .ref m1, .long pp, .long qq, .ref m2, .int (nI S.2.2), .ref m3, .ref m4, .ref m5, .ref m6, .ref m7, .ref m8, .ref m9, .ref m10])), (m2, .inl (cI, 128, .inl S.2.1)), (m3, .inl (cL, 8, .inr (.inl S.1)))] [(m0, .inr (3, [.int rd, .int 3, .int 0, .int (ln + nI n), .ref m1, .long pp, .long qq, .ref m2, .int (nI ((mo_pups S b sp n).2.2)), .ref m3, .ref m4, .ref m5, .ref m6, .ref m7, .ref m8, .ref m9, .ref m10])), (m2, .inl (cI, 128, .inl ((mo_pups S b sp n).2.1))), (m3, .inl (cL, 8, .inr (.inl ((mo_pups S b sp n).1))))] (1) sz := by
  refine xk_entZ (cc := cX3_updates) (maxL := 5) (by decide) rfl (Nat.le_of_ble_eq_true rfl) (Or.inr rfl) ?_
  intro p e s m args below meth co Q A ls hx hb hml hts hown hA hK hP hD hS hX ret hl
  have hl : lv_has ls 5 [(0, .ref m0), (1, .int (nI n)), (2, .int b), (3, .int sp)] := hl
  have hi_3 : ∀ w ∈ u_ws RX3 TX3 17, w ∈ wsX3_updates := by decide +kernel
  have fl_89 := hts (.fieldLink RX3 89 "WideHashModel" "length" "I") (by decide +kernel)
  refine lv_iload_n hx hb dX3_updates_0 rfl (lv_at hl 1 rfl) ?_
  refine lv_if_lt (tgt := 18) hx hb dX3_updates_1 (by decide) (fun c => ?_) (fun c => ?_)
  · exact absurd c (nI_pos (by omega))
  · refine lv_iload_n hx hb dX3_updates_4 rfl (lv_at hl 1 rfl) ?_
    refine lv_sipush (v := 2000) hx hb dX3_updates_5 (by decide) ?_
    refine lv_icmp_gt (tgt := 18) hx hb dX3_updates_8 (by decide) (fun c => ?_) (fun c => ?_)
    · exact absurd c (nI_nlt (a := 2000) (b := n) (by omega) (by omega))
    · refine lv_aload_n hx hb dX3_updates_11 rfl (lv_at hl 0 rfl) ?_
      refine xk_goI (r := 1) (wr := [(m2, .inl (cI, 128, .inl S.2.1)), (m3, .inl (cL, 8, .inr (.inl S.1)))]) (w2 := [(m0, .inr (3, [.int rd, .int 3, .int 0, .int ln, .ref m1, .long pp, .long qq, .ref m2, .int (nI S.2.2), .ref m3, .ref m4, .ref m5, .ref m6, .ref m7, .ref m8, .ref m9, .ref m10])), (m2, .inl (cI, 128, .inl S.2.1)), (m3, .inl (cL, 8, .inr (.inl S.1)))]) (va_runV (As := []) (rest := []) ⟨hx, hb, hml, hown, hts⟩ (c_X3_isOpen_y l D cI cL s.heap.size m0 m1 m2 m3 m4 m5 m6 m7 m8 m9 m10 rd 3 ln pp qq (nI S.2.2) (by decide)) (cwV 0 hts gX3_updates_X3_isOpen rfl rfl rfl (by decide +kernel) ⟨Nat.le_of_ble_eq_true rfl, Nat.le_of_ble_eq_true rfl⟩) ⟨xk_blind xk_0_ok, va_recv hK hP (ci := 3) (q0 := 0) rfl rfl, xk_at xk_0_ok trivial hP hD hK hS hA [0] rfl (by decide) rfl⟩ rfl rfl hl.1 rfl (lv_room (Nat.le_of_ble_eq_true rfl)) dX3_updates_12 ⟨Nat.le_of_ble_eq_true rfl, Nat.le_of_ble_eq_true rfl⟩) hP hD hS hA [0] [1, 2] [2, 0, 1] rfl rfl (by decide) (by decide) rfl (by decide) rfl (fun H locs hP hD hS => ?_)
      refine lv_if_ne (tgt := 20) hx hb dX3_updates_15 (by decide) (fun c => ?_) (fun c => ?_)
      · refine lv_iconst (v := 0) hx hb dX3_updates_20 (by decide) ?_
        refine lv_istore (lv' := [(4, .int 0), (0, .ref m0), (1, .int (nI n)), (2, .int b), (3, .int sp)]) hx hb dX3_updates_21 hl (by decide) rfl (fun ls hl => ?_)
        have loopA : ∀ (d : Nat) (j : Nat), (hj : j + d = n) → ∀ (H : Heap) (locs : List Loc) (ls : Array Slot), va_P D classes [(m0, .inr (3, [.int rd, .int 3, .int 0, .int ln, .ref m1, .long pp, .long qq, .ref m2, .int (nI ((mo_pups S b sp j).2.2)), .ref m3, .ref m4, .ref m5, .ref m6, .ref m7, .ref m8, .ref m9, .ref m10])), (m2, .inl (cI, 128, .inl ((mo_pups S b sp j).2.1))), (m3, .inl (cL, 8, .inr (.inl ((mo_pups S b sp j).1))))] H → va_D A [(m0, .inr (3, [.int rd, .int 3, .int 0, .int ln, .ref m1, .long pp, .long qq, .ref m2, .int (nI ((mo_pups S b sp j).2.2)), .ref m3, .ref m4, .ref m5, .ref m6, .ref m7, .ref m8, .ref m9, .ref m10])), (m2, .inl (cI, 128, .inl ((mo_pups S b sp j).2.1))), (m3, .inl (cL, 8, .inr (.inl ((mo_pups S b sp j).1))))] → va_S A s.heap H locs → lv_has ls 5 [(0, .ref m0), (1, .int (nI n)), (2, .int b), (3, .int sp), (4, .int (nI j))] → W p l e rm_X3_updates_p s m args below meth co H locs 0 0 Q (F0 m 23 ls []) := by
          intro d
          induction d with
          | zero =>
            intro j hj H locs ls hP hD hS hl
            obtain rfl : n = j := by omega
            refine lv_iload hx hb dX3_updates_23 (lv_at hl 4 rfl) ?_
            refine lv_iload_n hx hb dX3_updates_25 rfl (lv_at hl 1 rfl) ?_
            refine lv_icmp_ge (tgt := 49) hx hb dX3_updates_26 (by decide) (fun c => ?_) (fun c => ?_)
            · refine lv_aload_n hx hb dX3_updates_49 rfl (lv_at hl 0 rfl) ?_
              refine lv_dup hx hb dX3_updates_50 rfl ?_
              refine va_get (D := D) (ci := 3) (v := .int ln) (C := RX3) (T := TX3) (N := 17) hx hb hts hi_3 hown hK hP 0 rfl rfl 3 (by decide) fl_89 (fun _ h9 => h9) rfl dX3_updates_51 ?_
              refine lv_iload_n hx hb dX3_updates_54 rfl (lv_at hl 1 rfl) ?_
              refine lv_iadd hx hb dX3_updates_55 ?_
              refine va_put (D := D) (ci := 3) (v := .int (ln + (nI n))) (ty := .int) (C := RX3) (T := TX3) (N := 17) hx hb hts hi_3 tyX3 tyX3_ok nmX3 hown hK hP hD hS 0 rfl rfl 3 (by decide) fl_89 (fun _ h9 => h9) rfl (by decide +kernel) rfl rfl (Nat.le_of_ble_eq_true rfl) dX3_updates_56 (fun H locs hP hD hS => ?_)
              have hP : va_P D classes [(m0, .inr (3, [.int rd, .int 3, .int 0, .int (ln + (nI n)), .ref m1, .long pp, .long qq, .ref m2, .int (nI ((mo_pups S b sp n).2.2)), .ref m3, .ref m4, .ref m5, .ref m6, .ref m7, .ref m8, .ref m9, .ref m10])), (m2, .inl (cI, 128, .inl ((mo_pups S b sp n).2.1))), (m3, .inl (cL, 8, .inr (.inl ((mo_pups S b sp n).1))))] H := hP
              have hD : va_D A [(m0, .inr (3, [.int rd, .int 3, .int 0, .int (ln + (nI n)), .ref m1, .long pp, .long qq, .ref m2, .int (nI ((mo_pups S b sp n).2.2)), .ref m3, .ref m4, .ref m5, .ref m6, .ref m7, .ref m8, .ref m9, .ref m10])), (m2, .inl (cI, 128, .inl ((mo_pups S b sp n).2.1))), (m3, .inl (cL, 8, .inr (.inl ((mo_pups S b sp n).1))))] := hD
              refine lv_iconst (v := 1) hx hb dX3_updates_59 (by decide) ?_
              exact ret _ _ _ _ _ rfl hP hD hS dX3_updates_60
            · exact absurd (nI_le (a := n) (b := n) (by omega) (by omega)) c
          | succ d ihloopA =>
            intro j hj H locs ls hP hD hS hl
            refine lv_iload hx hb dX3_updates_23 (lv_at hl 4 rfl) ?_
            refine lv_iload_n hx hb dX3_updates_25 rfl (lv_at hl 1 rfl) ?_
            refine lv_icmp_ge (tgt := 49) hx hb dX3_updates_26 (by decide) (fun c => ?_) (fun c => ?_)
            · exact absurd c (nI_ge (a := j) (b := n) (by omega) (by omega))
            · refine lv_aload_n hx hb dX3_updates_29 rfl (lv_at hl 0 rfl) ?_
              refine lv_iload_n hx hb dX3_updates_30 rfl (lv_at hl 2 rfl) ?_
              refine lv_iload hx hb dX3_updates_31 (lv_at hl 4 rfl) ?_
              refine lv_iload_n hx hb dX3_updates_33 rfl (lv_at hl 3 rfl) ?_
              refine lv_imul hx hb dX3_updates_34 ?_
              refine lv_iadd hx hb dX3_updates_35 ?_
              refine lv_sipush (v := 255) hx hb dX3_updates_36 (by decide) ?_
              refine lv_iand hx hb dX3_updates_39 ?_
              refine xk_goV (wr := []) (w2 := [(m0, .inr (3, [.int rd, .int 3, .int 0, .int ln, .ref m1, .long pp, .long qq, .ref m2, .int (nI ((mo_ptake (mo_pups S b sp j) ((b + ((nI j) * sp)) &&& 255)).2.2)), .ref m3, .ref m4, .ref m5, .ref m6, .ref m7, .ref m8, .ref m9, .ref m10])), (m2, .inl (cI, 128, .inl ((mo_ptake (mo_pups S b sp j) ((b + ((nI j) * sp)) &&& 255)).2.1))), (m3, .inl (cL, 8, .inr (.inl ((mo_ptake (mo_pups S b sp j) ((b + ((nI j) * sp)) &&& 255)).1))))]) (va_runV (As := [.int ((b + ((nI j) * sp)) &&& 255)]) (rest := []) ⟨hx, hb, hml, hown, hts⟩ (c_X3_take_p l D cI cL H.size m0 m1 m2 m3 m4 m5 m6 m7 m8 m9 m10 rd 0 ln pp qq (mo_pups S b sp j) ((b + ((nI j) * sp)) &&& 255) (mo_pups_lt _ _ _ hk _)) (cwV 1 hts gX3_updates_X3_take rfl rfl rfl (by decide +kernel) ⟨Nat.le_of_ble_eq_true rfl, Nat.le_of_ble_eq_true rfl⟩) ⟨xk_blind xk_0_ok, va_recv hK hP (ci := 3) (q0 := 0) rfl rfl, xk_at xk_0_ok trivial hP hD hK hS hA [0, 1, 2] rfl (by decide) rfl⟩ rfl rfl hl.1 rfl (lv_room (Nat.le_of_ble_eq_true rfl)) dX3_updates_40 ⟨Nat.le_of_ble_eq_true rfl, Nat.le_of_ble_eq_true rfl⟩) hP hD hS hA [0, 1, 2] [] [0, 1, 2] rfl rfl (by decide) (by decide) rfl (by decide) rfl (fun H locs hP hD hS => ?_)
              refine lv_iinc (v := nI (j + 1)) (lv' := [(4, .int (nI (j + 1))), (0, .ref m0), (1, .int (nI n)), (2, .int b), (3, .int sp)]) hx hb dX3_updates_43 hl (k := 4) rfl (xk_i1 (by omega)) (by decide) rfl (fun ls hl => ?_)
              refine lv_goto (tgt := 23) hx hb dX3_updates_46 (by decide) ?_
              exact ihloopA (j + 1) (by omega) _ _ _ hP hD hS (lv_sub hl [1, 2, 3, 4, 0] rfl)
        exact loopA n 0 (Nat.zero_add _) _ _ _ hP hD hS (lv_sub hl [1, 2, 3, 4, 0] rfl)
      · exact absurd c (by decide)
abbrev rm_X3_updates_s : Room := { frames := 3, cells := 0, slots := 0, locals := 80 }
set_option maxHeartbeats 4000000 in
set_option maxRecDepth 100000 in
theorem c_X3_updates_s (l : Launch) (D : va_G) (cI cL : ClassId) (sz : Nat) (m0 : Nat) (m1 : Nat) (m2 : Nat) (m3 : Nat) (m4 : Nat) (m5 : Nat) (m6 : Nat) (m7 : Nat) (m8 : Nat) (m9 : Nat) (m10 : Nat) (rd : Int32) (md : Int32) (ln : Int32) (pp : Int64) (qq : Int64) (cu : Nat → Int64) (S : xm_S) (n : Nat) (b : Int32) (sp : Int32) (hn : n ≤ 2000) (hm : ¬ md ≤ 0) (hkd : ¬ md = 3) (hk : S.2.2.2.2 < 128) : xk_I l yX3_updates wsX3_updates rm_X3_updates_s xk_0 D classes [(cI, .int), (cL, .long)] [.ref m0, .int (nI n), .int b, .int sp] [(m0, .inr (3, [.int rd, .int md, .int 0, .int ln, .ref m1, .long pp, .long qq, .ref m2, .int (nI S.2.2.2.2), .ref m3, .ref m4, .ref m5, .ref m6, .ref m7, .ref m8, .ref m9, .ref m10])), (m2, .inl (cI, 128, .inl S.2.2.2.1)), (m3, .inl (cL, 8, .inr (.inl S.1))), (m4, .inl (cL, 80, .inr (.inl cu))), (m6, .inl (cL, 80, .inr (.inl S.2.1))), (m7, .inl (cL, 8, .inr (.inl S.2.2.1)))] [(m0, .inr (3, [.int rd, .int md, .int 0, .int (ln + nI n), .ref m1, .long pp, .long qq, .ref m2, .int (nI ((mo_ups cu S b sp n).2.2.2.2)), .ref m3, .ref m4, .ref m5, .ref m6, .ref m7, .ref m8, .ref m9, .ref m10])), (m2, .inl (cI, 128, .inl ((mo_ups cu S b sp n).2.2.2.1))), (m3, .inl (cL, 8, .inr (.inl ((mo_ups cu S b sp n).1)))), (m4, .inl (cL, 80, .inr (.inl cu))), (m6, .inl (cL, 80, .inr (.inl ((mo_ups cu S b sp n).2.1)))), (m7, .inl (cL, 8, .inr (.inl ((mo_ups cu S b sp n).2.2.1))))] (1) sz := by
  refine xk_entZ (cc := cX3_updates) (maxL := 5) (by decide) rfl (Nat.le_of_ble_eq_true rfl) (Or.inr rfl) ?_
  intro p e s m args below meth co Q A ls hx hb hml hts hown hA hK hP hD hS hX ret hl
  have hl : lv_has ls 5 [(0, .ref m0), (1, .int (nI n)), (2, .int b), (3, .int sp)] := hl
  have hi_3 : ∀ w ∈ u_ws RX3 TX3 17, w ∈ wsX3_updates := by decide +kernel
  have fl_89 := hts (.fieldLink RX3 89 "WideHashModel" "length" "I") (by decide +kernel)
  refine lv_iload_n hx hb dX3_updates_0 rfl (lv_at hl 1 rfl) ?_
  refine lv_if_lt (tgt := 18) hx hb dX3_updates_1 (by decide) (fun c => ?_) (fun c => ?_)
  · exact absurd c (nI_pos (by omega))
  · refine lv_iload_n hx hb dX3_updates_4 rfl (lv_at hl 1 rfl) ?_
    refine lv_sipush (v := 2000) hx hb dX3_updates_5 (by decide) ?_
    refine lv_icmp_gt (tgt := 18) hx hb dX3_updates_8 (by decide) (fun c => ?_) (fun c => ?_)
    · exact absurd c (nI_nlt (a := 2000) (b := n) (by omega) (by omega))
    · refine lv_aload_n hx hb dX3_updates_11 rfl (lv_at hl 0 rfl) ?_
      refine xk_goI (r := 1) (wr := [(m2, .inl (cI, 128, .inl S.2.2.2.1)), (m3, .inl (cL, 8, .inr (.inl S.1))), (m4, .inl (cL, 80, .inr (.inl cu))), (m6, .inl (cL, 80, .inr (.inl S.2.1))), (m7, .inl (cL, 8, .inr (.inl S.2.2.1)))]) (w2 := [(m0, .inr (3, [.int rd, .int md, .int 0, .int ln, .ref m1, .long pp, .long qq, .ref m2, .int (nI S.2.2.2.2), .ref m3, .ref m4, .ref m5, .ref m6, .ref m7, .ref m8, .ref m9, .ref m10])), (m2, .inl (cI, 128, .inl S.2.2.2.1)), (m3, .inl (cL, 8, .inr (.inl S.1))), (m4, .inl (cL, 80, .inr (.inl cu))), (m6, .inl (cL, 80, .inr (.inl S.2.1))), (m7, .inl (cL, 8, .inr (.inl S.2.2.1)))]) (va_runV (As := []) (rest := []) ⟨hx, hb, hml, hown, hts⟩ (c_X3_isOpen_y l D cI cL s.heap.size m0 m1 m2 m3 m4 m5 m6 m7 m8 m9 m10 rd md ln pp qq (nI S.2.2.2.2) hm) (cwV 0 hts gX3_updates_X3_isOpen rfl rfl rfl (by decide +kernel) ⟨Nat.le_of_ble_eq_true rfl, Nat.le_of_ble_eq_true rfl⟩) ⟨xk_blind xk_0_ok, va_recv hK hP (ci := 3) (q0 := 0) rfl rfl, xk_at xk_0_ok trivial hP hD hK hS hA [0] rfl (by decide) rfl⟩ rfl rfl hl.1 rfl (lv_room (Nat.le_of_ble_eq_true rfl)) dX3_updates_12 ⟨Nat.le_of_ble_eq_true rfl, Nat.le_of_ble_eq_true rfl⟩) hP hD hS hA [0] [1, 2, 3, 4, 5] [5, 0, 1, 2, 3, 4] rfl rfl (by decide) (by decide) rfl (by decide) rfl (fun H locs hP hD hS => ?_)
      refine lv_if_ne (tgt := 20) hx hb dX3_updates_15 (by decide) (fun c => ?_) (fun c => ?_)
      · refine lv_iconst (v := 0) hx hb dX3_updates_20 (by decide) ?_
        refine lv_istore (lv' := [(4, .int 0), (0, .ref m0), (1, .int (nI n)), (2, .int b), (3, .int sp)]) hx hb dX3_updates_21 hl (by decide) rfl (fun ls hl => ?_)
        have loopA : ∀ (d : Nat) (j : Nat), (hj : j + d = n) → ∀ (H : Heap) (locs : List Loc) (ls : Array Slot), va_P D classes [(m0, .inr (3, [.int rd, .int md, .int 0, .int ln, .ref m1, .long pp, .long qq, .ref m2, .int (nI ((mo_ups cu S b sp j).2.2.2.2)), .ref m3, .ref m4, .ref m5, .ref m6, .ref m7, .ref m8, .ref m9, .ref m10])), (m2, .inl (cI, 128, .inl ((mo_ups cu S b sp j).2.2.2.1))), (m3, .inl (cL, 8, .inr (.inl ((mo_ups cu S b sp j).1)))), (m4, .inl (cL, 80, .inr (.inl cu))), (m6, .inl (cL, 80, .inr (.inl ((mo_ups cu S b sp j).2.1)))), (m7, .inl (cL, 8, .inr (.inl ((mo_ups cu S b sp j).2.2.1))))] H → va_D A [(m0, .inr (3, [.int rd, .int md, .int 0, .int ln, .ref m1, .long pp, .long qq, .ref m2, .int (nI ((mo_ups cu S b sp j).2.2.2.2)), .ref m3, .ref m4, .ref m5, .ref m6, .ref m7, .ref m8, .ref m9, .ref m10])), (m2, .inl (cI, 128, .inl ((mo_ups cu S b sp j).2.2.2.1))), (m3, .inl (cL, 8, .inr (.inl ((mo_ups cu S b sp j).1)))), (m4, .inl (cL, 80, .inr (.inl cu))), (m6, .inl (cL, 80, .inr (.inl ((mo_ups cu S b sp j).2.1)))), (m7, .inl (cL, 8, .inr (.inl ((mo_ups cu S b sp j).2.2.1))))] → va_S A s.heap H locs → lv_has ls 5 [(0, .ref m0), (1, .int (nI n)), (2, .int b), (3, .int sp), (4, .int (nI j))] → W p l e rm_X3_updates_s s m args below meth co H locs 0 0 Q (F0 m 23 ls []) := by
          intro d
          induction d with
          | zero =>
            intro j hj H locs ls hP hD hS hl
            obtain rfl : n = j := by omega
            refine lv_iload hx hb dX3_updates_23 (lv_at hl 4 rfl) ?_
            refine lv_iload_n hx hb dX3_updates_25 rfl (lv_at hl 1 rfl) ?_
            refine lv_icmp_ge (tgt := 49) hx hb dX3_updates_26 (by decide) (fun c => ?_) (fun c => ?_)
            · refine lv_aload_n hx hb dX3_updates_49 rfl (lv_at hl 0 rfl) ?_
              refine lv_dup hx hb dX3_updates_50 rfl ?_
              refine va_get (D := D) (ci := 3) (v := .int ln) (C := RX3) (T := TX3) (N := 17) hx hb hts hi_3 hown hK hP 0 rfl rfl 3 (by decide) fl_89 (fun _ h9 => h9) rfl dX3_updates_51 ?_
              refine lv_iload_n hx hb dX3_updates_54 rfl (lv_at hl 1 rfl) ?_
              refine lv_iadd hx hb dX3_updates_55 ?_
              refine va_put (D := D) (ci := 3) (v := .int (ln + (nI n))) (ty := .int) (C := RX3) (T := TX3) (N := 17) hx hb hts hi_3 tyX3 tyX3_ok nmX3 hown hK hP hD hS 0 rfl rfl 3 (by decide) fl_89 (fun _ h9 => h9) rfl (by decide +kernel) rfl rfl (Nat.le_of_ble_eq_true rfl) dX3_updates_56 (fun H locs hP hD hS => ?_)
              have hP : va_P D classes [(m0, .inr (3, [.int rd, .int md, .int 0, .int (ln + (nI n)), .ref m1, .long pp, .long qq, .ref m2, .int (nI ((mo_ups cu S b sp n).2.2.2.2)), .ref m3, .ref m4, .ref m5, .ref m6, .ref m7, .ref m8, .ref m9, .ref m10])), (m2, .inl (cI, 128, .inl ((mo_ups cu S b sp n).2.2.2.1))), (m3, .inl (cL, 8, .inr (.inl ((mo_ups cu S b sp n).1)))), (m4, .inl (cL, 80, .inr (.inl cu))), (m6, .inl (cL, 80, .inr (.inl ((mo_ups cu S b sp n).2.1)))), (m7, .inl (cL, 8, .inr (.inl ((mo_ups cu S b sp n).2.2.1))))] H := hP
              have hD : va_D A [(m0, .inr (3, [.int rd, .int md, .int 0, .int (ln + (nI n)), .ref m1, .long pp, .long qq, .ref m2, .int (nI ((mo_ups cu S b sp n).2.2.2.2)), .ref m3, .ref m4, .ref m5, .ref m6, .ref m7, .ref m8, .ref m9, .ref m10])), (m2, .inl (cI, 128, .inl ((mo_ups cu S b sp n).2.2.2.1))), (m3, .inl (cL, 8, .inr (.inl ((mo_ups cu S b sp n).1)))), (m4, .inl (cL, 80, .inr (.inl cu))), (m6, .inl (cL, 80, .inr (.inl ((mo_ups cu S b sp n).2.1)))), (m7, .inl (cL, 8, .inr (.inl ((mo_ups cu S b sp n).2.2.1))))] := hD
              refine lv_iconst (v := 1) hx hb dX3_updates_59 (by decide) ?_
              exact ret _ _ _ _ _ rfl hP hD hS dX3_updates_60
            · exact absurd (nI_le (a := n) (b := n) (by omega) (by omega)) c
          | succ d ihloopA =>
            intro j hj H locs ls hP hD hS hl
            refine lv_iload hx hb dX3_updates_23 (lv_at hl 4 rfl) ?_
            refine lv_iload_n hx hb dX3_updates_25 rfl (lv_at hl 1 rfl) ?_
            refine lv_icmp_ge (tgt := 49) hx hb dX3_updates_26 (by decide) (fun c => ?_) (fun c => ?_)
            · exact absurd c (nI_ge (a := j) (b := n) (by omega) (by omega))
            · refine lv_aload_n hx hb dX3_updates_29 rfl (lv_at hl 0 rfl) ?_
              refine lv_iload_n hx hb dX3_updates_30 rfl (lv_at hl 2 rfl) ?_
              refine lv_iload hx hb dX3_updates_31 (lv_at hl 4 rfl) ?_
              refine lv_iload_n hx hb dX3_updates_33 rfl (lv_at hl 3 rfl) ?_
              refine lv_imul hx hb dX3_updates_34 ?_
              refine lv_iadd hx hb dX3_updates_35 ?_
              refine lv_sipush (v := 255) hx hb dX3_updates_36 (by decide) ?_
              refine lv_iand hx hb dX3_updates_39 ?_
              refine xk_goV (wr := []) (w2 := [(m0, .inr (3, [.int rd, .int md, .int 0, .int ln, .ref m1, .long pp, .long qq, .ref m2, .int (nI ((mo_take cu (mo_ups cu S b sp j) ((b + ((nI j) * sp)) &&& 255)).2.2.2.2)), .ref m3, .ref m4, .ref m5, .ref m6, .ref m7, .ref m8, .ref m9, .ref m10])), (m2, .inl (cI, 128, .inl ((mo_take cu (mo_ups cu S b sp j) ((b + ((nI j) * sp)) &&& 255)).2.2.2.1))), (m3, .inl (cL, 8, .inr (.inl ((mo_take cu (mo_ups cu S b sp j) ((b + ((nI j) * sp)) &&& 255)).1)))), (m4, .inl (cL, 80, .inr (.inl cu))), (m6, .inl (cL, 80, .inr (.inl ((mo_take cu (mo_ups cu S b sp j) ((b + ((nI j) * sp)) &&& 255)).2.1)))), (m7, .inl (cL, 8, .inr (.inl ((mo_take cu (mo_ups cu S b sp j) ((b + ((nI j) * sp)) &&& 255)).2.2.1))))]) (va_runV (As := [.int ((b + ((nI j) * sp)) &&& 255)]) (rest := []) ⟨hx, hb, hml, hown, hts⟩ (c_X3_take_s l D cI cL H.size m0 m1 m2 m3 m4 m5 m6 m7 m8 m9 m10 rd md 0 ln pp qq cu (mo_ups cu S b sp j) ((b + ((nI j) * sp)) &&& 255) hkd (mo_ups_lt _ _ _ _ hk _)) (cwV 1 hts gX3_updates_X3_take rfl rfl rfl (by decide +kernel) ⟨Nat.le_of_ble_eq_true rfl, Nat.le_of_ble_eq_true rfl⟩) ⟨xk_blind xk_0_ok, va_recv hK hP (ci := 3) (q0 := 0) rfl rfl, xk_at xk_0_ok trivial hP hD hK hS hA [0, 1, 2, 3, 4, 5] rfl (by decide) rfl⟩ rfl rfl hl.1 rfl (lv_room (Nat.le_of_ble_eq_true rfl)) dX3_updates_40 ⟨Nat.le_of_ble_eq_true rfl, Nat.le_of_ble_eq_true rfl⟩) hP hD hS hA [0, 1, 2, 3, 4, 5] [] [0, 1, 2, 3, 4, 5] rfl rfl (by decide) (by decide) rfl (by decide) rfl (fun H locs hP hD hS => ?_)
              refine lv_iinc (v := nI (j + 1)) (lv' := [(4, .int (nI (j + 1))), (0, .ref m0), (1, .int (nI n)), (2, .int b), (3, .int sp)]) hx hb dX3_updates_43 hl (k := 4) rfl (xk_i1 (by omega)) (by decide) rfl (fun ls hl => ?_)
              refine lv_goto (tgt := 23) hx hb dX3_updates_46 (by decide) ?_
              exact ihloopA (j + 1) (by omega) _ _ _ hP hD hS (lv_sub hl [1, 2, 3, 4, 0] rfl)
        exact loopA n 0 (Nat.zero_add _) _ _ _ hP hD hS (lv_sub hl [1, 2, 3, 4, 0] rfl)
      · exact absurd c (by decide)
