abbrev rm_X3_close_no : Room := { frames := 1, cells := 0, slots := 0, locals := 20 }
set_option maxHeartbeats 4000000 in
set_option maxRecDepth 100000 in
theorem c_X3_close_no (l : Launch) (D : va_G) (cI cL : ClassId) (sz : Nat) (m0 : Nat) (m1 : Nat) (m2 : Nat) (m3 : Nat) (m4 : Nat) (m5 : Nat) (m6 : Nat) (m7 : Nat) (m8 : Nat) (m9 : Nat) (m10 : Nat) (rd : Int32) (md : Int32) (cd : Int32) (ln : Int32) (pp : Int64) (qq : Int64) (hd : Int32) (hno : md ≤ 0 ∨ ¬ cd = 0) : xk_I l yX3_close wsX3_close rm_X3_close_no xk_0 D classes [(cI, .int), (cL, .long)] [.ref m0] [(m0, .inr (3, [.int rd, .int md, .int cd, .int ln, .ref m1, .long pp, .long qq, .ref m2, .int hd, .ref m3, .ref m4, .ref m5, .ref m6, .ref m7, .ref m8, .ref m9, .ref m10]))] [(m0, .inr (3, [.int rd, .int md, .int cd, .int ln, .ref m1, .long pp, .long qq, .ref m2, .int hd, .ref m3, .ref m4, .ref m5, .ref m6, .ref m7, .ref m8, .ref m9, .ref m10]))] (0) sz := by
  refine xk_entZ (cc := cX3_close) (maxL := 2) (by decide) rfl (Nat.le_of_ble_eq_true rfl) (Or.inl rfl) ?_
  intro p e s m args below meth co Q A ls hx hb hml hts hown hA hK hP hD hS hX ret hl
  have hl : lv_has ls 2 [(0, .ref m0)] := hl
  have hi_3 : ∀ w ∈ u_ws RX3 TX3 17, w ∈ wsX3_close := by decide +kernel
  have fl_82 := hts (.fieldLink RX3 82 "WideHashModel" "mode" "I") (by decide +kernel)
  have fl_92 := hts (.fieldLink RX3 92 "WideHashModel" "held" "I") (by decide +kernel)
  have fl_89 := hts (.fieldLink RX3 89 "WideHashModel" "length" "I") (by decide +kernel)
  have fl_16 := hts (.fieldLink RX3 16 "WideHashModel" "state" "[J") (by decide +kernel)
  have kc_126 := hts (.constantLong RX3 126 (255)) (by decide +kernel)
  have kc_128 := hts (.constantLong RX3 128 (8)) (by decide +kernel)
  have fl_86 := hts (.fieldLink RX3 86 "WideHashModel" "closed" "Z") (by decide +kernel)
  refine lv_aload_n hx hb dX3_close_0 rfl (lv_at hl 0 rfl) ?_
  refine xk_goI (r := 0) (wr := []) (w2 := [(m0, .inr (3, [.int rd, .int md, .int cd, .int ln, .ref m1, .long pp, .long qq, .ref m2, .int hd, .ref m3, .ref m4, .ref m5, .ref m6, .ref m7, .ref m8, .ref m9, .ref m10]))]) (va_runV (As := []) (rest := []) ⟨hx, hb, hml, hown, hts⟩ (c_X3_isOpen_no l D cI cL s.heap.size m0 m1 m2 m3 m4 m5 m6 m7 m8 m9 m10 rd md cd ln pp qq hd hno) (cwV 0 hts gX3_close_X3_isOpen rfl rfl rfl (by decide +kernel) ⟨Nat.le_of_ble_eq_true rfl, Nat.le_of_ble_eq_true rfl⟩) ⟨xk_blind xk_0_ok, va_recv hK hP (ci := 3) (q0 := 0) rfl rfl, xk_at xk_0_ok trivial hP hD hK hS hA [0] rfl (by decide) rfl⟩ rfl rfl hl.1 rfl (lv_room (Nat.le_of_ble_eq_true rfl)) dX3_close_1 ⟨Nat.le_of_ble_eq_true rfl, Nat.le_of_ble_eq_true rfl⟩) hP hD hS hA [0] [] [0] rfl rfl (by decide) (by decide) rfl (by decide) rfl (fun H locs hP hD hS => ?_)
  refine lv_if_ne (tgt := 9) hx hb dX3_close_4 (by decide) (fun c => ?_) (fun c => ?_)
  · exact absurd rfl c
  · refine lv_iconst (v := 0) hx hb dX3_close_7 (by decide) ?_
    exact ret _ _ _ _ _ rfl hP hD hS dX3_close_8
abbrev rm_X3_close_p : Room := { frames := 5, cells := 0, slots := 0, locals := 111 }
set_option maxHeartbeats 4000000 in
set_option maxRecDepth 100000 in
theorem c_X3_close_p (l : Launch) (D : va_G) (cI cL : ClassId) (sz : Nat) (m0 : Nat) (m1 : Nat) (m2 : Nat) (m3 : Nat) (m4 : Nat) (m5 : Nat) (m6 : Nat) (m7 : Nat) (m8 : Nat) (m9 : Nat) (m10 : Nat) (rd : Int32) (ln : Int32) (pp : Int64) (qq : Int64) (S : xq_S) (hk : S.2.2 < 8) : xk_I l yX3_close wsX3_close rm_X3_close_p xk_0 D classes [(cI, .int), (cL, .long)] [.ref m0] [(m0, .inr (3, [.int rd, .int 3, .int 0, .int ln, .ref m1, .long pp, .long qq, .ref m2, .int (nI S.2.2), .ref m3, .ref m4, .ref m5, .ref m6, .ref m7, .ref m8, .ref m9, .ref m10])), (m2, .inl (cI, 128, .inl S.2.1)), (m3, .inl (cL, 8, .inr (.inl S.1)))] [(m0, .inr (3, [.int rd, .int 3, .int 1, .int ln, .ref m1, .long pp, .long qq, .ref m2, .int (nI ((mo_pend S ln).2.2)), .ref m3, .ref m4, .ref m5, .ref m6, .ref m7, .ref m8, .ref m9, .ref m10])), (m2, .inl (cI, 128, .inl ((mo_pend S ln).2.1))), (m3, .inl (cL, 8, .inr (.inl ((mo_pend S ln).1))))] (1) sz := by
  refine xk_entZ (cc := cX3_close) (maxL := 2) (by decide) rfl (Nat.le_of_ble_eq_true rfl) (Or.inr rfl) ?_
  intro p e s m args below meth co Q A ls hx hb hml hts hown hA hK hP hD hS hX ret hl
  have hl : lv_has ls 2 [(0, .ref m0)] := hl
  have hi_3 : ∀ w ∈ u_ws RX3 TX3 17, w ∈ wsX3_close := by decide +kernel
  have fl_82 := hts (.fieldLink RX3 82 "WideHashModel" "mode" "I") (by decide +kernel)
  have fl_92 := hts (.fieldLink RX3 92 "WideHashModel" "held" "I") (by decide +kernel)
  have fl_89 := hts (.fieldLink RX3 89 "WideHashModel" "length" "I") (by decide +kernel)
  have fl_16 := hts (.fieldLink RX3 16 "WideHashModel" "state" "[J") (by decide +kernel)
  have kc_126 := hts (.constantLong RX3 126 (255)) (by decide +kernel)
  have kc_128 := hts (.constantLong RX3 128 (8)) (by decide +kernel)
  have fl_86 := hts (.fieldLink RX3 86 "WideHashModel" "closed" "Z") (by decide +kernel)
  refine lv_aload_n hx hb dX3_close_0 rfl (lv_at hl 0 rfl) ?_
  refine xk_goI (r := 1) (wr := [(m2, .inl (cI, 128, .inl S.2.1)), (m3, .inl (cL, 8, .inr (.inl S.1)))]) (w2 := [(m0, .inr (3, [.int rd, .int 3, .int 0, .int ln, .ref m1, .long pp, .long qq, .ref m2, .int (nI S.2.2), .ref m3, .ref m4, .ref m5, .ref m6, .ref m7, .ref m8, .ref m9, .ref m10])), (m2, .inl (cI, 128, .inl S.2.1)), (m3, .inl (cL, 8, .inr (.inl S.1)))]) (va_runV (As := []) (rest := []) ⟨hx, hb, hml, hown, hts⟩ (c_X3_isOpen_y l D cI cL s.heap.size m0 m1 m2 m3 m4 m5 m6 m7 m8 m9 m10 rd 3 ln pp qq (nI S.2.2) (by decide)) (cwV 0 hts gX3_close_X3_isOpen rfl rfl rfl (by decide +kernel) ⟨Nat.le_of_ble_eq_true rfl, Nat.le_of_ble_eq_true rfl⟩) ⟨xk_blind xk_0_ok, va_recv hK hP (ci := 3) (q0 := 0) rfl rfl, xk_at xk_0_ok trivial hP hD hK hS hA [0] rfl (by decide) rfl⟩ rfl rfl hl.1 rfl (lv_room (Nat.le_of_ble_eq_true rfl)) dX3_close_1 ⟨Nat.le_of_ble_eq_true rfl, Nat.le_of_ble_eq_true rfl⟩) hP hD hS hA [0] [1, 2] [2, 0, 1] rfl rfl (by decide) (by decide) rfl (by decide) rfl (fun H locs hP hD hS => ?_)
  refine lv_if_ne (tgt := 9) hx hb dX3_close_4 (by decide) (fun c => ?_) (fun c => ?_)
  · refine lv_aload_n hx hb dX3_close_9 rfl (lv_at hl 0 rfl) ?_
    refine va_get (D := D) (ci := 3) (v := .int 3) (C := RX3) (T := TX3) (N := 17) hx hb hts hi_3 hown hK hP 0 rfl rfl 1 (by decide) fl_82 (fun _ h9 => h9) rfl dX3_close_10 ?_
    refine lv_iconst (v := 3) hx hb dX3_close_13 (by decide) ?_
    refine lv_icmp_ne (tgt := 95) hx hb dX3_close_14 (by decide) (fun c => ?_) (fun c => ?_)
    · exact absurd rfl c
    · have loopA : ∀ (d : Nat) (j : Nat), (hj : j + d = 7 - S.2.2) → ∀ (H : Heap) (locs : List Loc) (ls : Array Slot), va_P D classes [(m0, .inr (3, [.int rd, .int 3, .int 0, .int ln, .ref m1, .long pp, .long qq, .ref m2, .int (nI ((mo_ppads S j).2.2)), .ref m3, .ref m4, .ref m5, .ref m6, .ref m7, .ref m8, .ref m9, .ref m10])), (m2, .inl (cI, 128, .inl ((mo_ppads S j).2.1))), (m3, .inl (cL, 8, .inr (.inl ((mo_ppads S j).1))))] H → va_D A [(m0, .inr (3, [.int rd, .int 3, .int 0, .int ln, .ref m1, .long pp, .long qq, .ref m2, .int (nI ((mo_ppads S j).2.2)), .ref m3, .ref m4, .ref m5, .ref m6, .ref m7, .ref m8, .ref m9, .ref m10])), (m2, .inl (cI, 128, .inl ((mo_ppads S j).2.1))), (m3, .inl (cL, 8, .inr (.inl ((mo_ppads S j).1))))] → va_S A s.heap H locs → lv_has ls 2 [(0, .ref m0)] → W p l e rm_X3_close_p s m args below meth co H locs 0 0 Q (F0 m 17 ls []) := by
        intro d
        induction d with
        | zero =>
          intro j hj H locs ls hP hD hS hl
          obtain rfl : j = 7 - S.2.2 := by omega
          have hkz : (mo_ppads S (7 - S.2.2)).2.2 = 7 := by rw [mo_ppads_k S hk]; omega
          refine lv_aload_n hx hb dX3_close_17 rfl (lv_at hl 0 rfl) ?_
          refine va_get (D := D) (ci := 3) (v := .int (nI ((mo_ppads S (7 - S.2.2)).2.2))) (C := RX3) (T := TX3) (N := 17) hx hb hts hi_3 hown hK hP 0 rfl rfl 8 (by decide) fl_92 (fun _ h9 => h9) rfl dX3_close_18 ?_
          refine lv_bipush (v := 7) hx hb dX3_close_21 (by decide) ?_
          refine lv_icmp_ge (tgt := 34) hx hb dX3_close_23 (by decide) (fun c => ?_) (fun c => ?_)
          · refine lv_aload_n hx hb dX3_close_34 rfl (lv_at hl 0 rfl) ?_
            refine lv_aload_n hx hb dX3_close_35 rfl (lv_at hl 0 rfl) ?_
            refine va_get (D := D) (ci := 3) (v := .int ln) (C := RX3) (T := TX3) (N := 17) hx hb hts hi_3 hown hK hP 0 rfl rfl 3 (by decide) fl_89 (fun _ h9 => h9) rfl dX3_close_36 ?_
            refine lv_sipush (v := 255) hx hb dX3_close_39 (by decide) ?_
            refine lv_iand hx hb dX3_close_42 ?_
            refine xk_goV (wr := []) (w2 := [(m0, .inr (3, [.int rd, .int 3, .int 0, .int ln, .ref m1, .long pp, .long qq, .ref m2, .int (nI ((mo_ptake (mo_ppads S (7 - S.2.2)) (ln &&& 255)).2.2)), .ref m3, .ref m4, .ref m5, .ref m6, .ref m7, .ref m8, .ref m9, .ref m10])), (m2, .inl (cI, 128, .inl ((mo_ptake (mo_ppads S (7 - S.2.2)) (ln &&& 255)).2.1))), (m3, .inl (cL, 8, .inr (.inl ((mo_ptake (mo_ppads S (7 - S.2.2)) (ln &&& 255)).1))))]) (va_runV (As := [.int (ln &&& 255)]) (rest := []) ⟨hx, hb, hml, hown, hts⟩ (c_X3_take_p l D cI cL H.size m0 m1 m2 m3 m4 m5 m6 m7 m8 m9 m10 rd 0 ln pp qq (mo_ppads S (7 - S.2.2)) (ln &&& 255) (mo_ppads_lt _ hk _)) (cwV 1 hts gX3_close_X3_take rfl rfl rfl (by decide +kernel) ⟨Nat.le_of_ble_eq_true rfl, Nat.le_of_ble_eq_true rfl⟩) ⟨xk_blind xk_0_ok, va_recv hK hP (ci := 3) (q0 := 0) rfl rfl, xk_at xk_0_ok trivial hP hD hK hS hA [0, 1, 2] rfl (by decide) rfl⟩ rfl rfl hl.1 rfl (lv_room (Nat.le_of_ble_eq_true rfl)) dX3_close_43 ⟨Nat.le_of_ble_eq_true rfl, Nat.le_of_ble_eq_true rfl⟩) hP hD hS hA [0, 1, 2] [] [0, 1, 2] rfl rfl (by decide) (by decide) rfl (by decide) rfl (fun H locs hP hD hS => ?_)
            generalize eL1 : (mo_ptake (mo_ppads S (7 - S.2.2)) (ln &&& 255)).1 = L1 at hP hD
            refine lv_aload_n hx hb dX3_close_46 rfl (lv_at hl 0 rfl) ?_
            refine va_get (D := D) (ci := 3) (v := .ref m3) (C := RX3) (T := TX3) (N := 17) hx hb hts hi_3 hown hK hP 0 rfl rfl 9 (by decide) fl_16 (fun _ h9 => h9) rfl dX3_close_47 ?_
            refine lv_iconst (v := 2) hx hb dX3_close_50 (by decide) ?_
            refine lv_dup2_11 hx hb dX3_close_51 rfl rfl ?_
            refine xk_lald hx hb hK hP 2 1 rfl rfl 2 rfl (by omega) (by decide) dX3_close_52 ?_
            refine lv_ldc2 (v := 255) hx hb hown kc_126 dX3_close_53 ?_
            refine lv_lxor hx hb dX3_close_56 ?_
            refine xk_last hx hb hK hP hD hS 2 1 rfl rfl 2 rfl (by omega) (by decide) dX3_close_57 (fun H locs hP hD hS => ?_)
            have hP : va_P D classes [(m0, .inr (3, [.int rd, .int 3, .int 0, .int ln, .ref m1, .long pp, .long qq, .ref m2, .int (nI ((mo_ptake (mo_ppads S (7 - S.2.2)) (ln &&& 255)).2.2)), .ref m3, .ref m4, .ref m5, .ref m6, .ref m7, .ref m8, .ref m9, .ref m10])), (m2, .inl (cI, 128, .inl ((mo_ptake (mo_ppads S (7 - S.2.2)) (ln &&& 255)).2.1))), (m3, .inl (cL, 8, .inr (.inl (vp_updL L1 2 ((L1 2) ^^^ 255)))))] H := hP
            have hD : va_D A [(m0, .inr (3, [.int rd, .int 3, .int 0, .int ln, .ref m1, .long pp, .long qq, .ref m2, .int (nI ((mo_ptake (mo_ppads S (7 - S.2.2)) (ln &&& 255)).2.2)), .ref m3, .ref m4, .ref m5, .ref m6, .ref m7, .ref m8, .ref m9, .ref m10])), (m2, .inl (cI, 128, .inl ((mo_ptake (mo_ppads S (7 - S.2.2)) (ln &&& 255)).2.1))), (m3, .inl (cL, 8, .inr (.inl (vp_updL L1 2 ((L1 2) ^^^ 255)))))] := hD
            generalize eL2 : vp_updL L1 2 ((L1 2) ^^^ 255) = L2 at hP hD
            refine lv_aload_n hx hb dX3_close_58 rfl (lv_at hl 0 rfl) ?_
            refine lv_iconst (v := 4) hx hb dX3_close_59 (by decide) ?_
            refine xk_goV (wr := [(m2, .inl (cI, 128, .inl ((mo_ptake (mo_ppads S (7 - S.2.2)) (ln &&& 255)).2.1)))]) (w2 := [(m0, .inr (3, [.int rd, .int 3, .int 0, .int ln, .ref m1, .long pp, .long qq, .ref m2, .int (nI ((mo_ptake (mo_ppads S (7 - S.2.2)) (ln &&& 255)).2.2)), .ref m3, .ref m4, .ref m5, .ref m6, .ref m7, .ref m8, .ref m9, .ref m10])), (m2, .inl (cI, 128, .inl ((mo_ptake (mo_ppads S (7 - S.2.2)) (ln &&& 255)).2.1))), (m3, .inl (cL, 8, .inr (.inl (mo_srs L2 4))))]) (va_runV (As := [.int 4]) (rest := []) ⟨hx, hb, hml, hown, hts⟩ (c_X3_sipRounds l D cI cL H.size m0 m1 m2 m3 m4 m5 m6 m7 m8 m9 m10 rd 3 0 ln pp qq (nI ((mo_ptake (mo_ppads S (7 - S.2.2)) (ln &&& 255)).2.2)) L2 4 (by omega)) (cwV 1 hts gX3_close_X3_sipRounds rfl rfl rfl (by decide +kernel) ⟨Nat.le_of_ble_eq_true rfl, Nat.le_of_ble_eq_true rfl⟩) ⟨xk_blind xk_0_ok, va_recv hK hP (ci := 3) (q0 := 0) rfl rfl, xk_at xk_0_ok trivial hP hD hK hS hA [0, 2] rfl (by decide) rfl⟩ rfl rfl hl.1 rfl (lv_room (Nat.le_of_ble_eq_true rfl)) dX3_close_60 ⟨Nat.le_of_ble_eq_true rfl, Nat.le_of_ble_eq_true rfl⟩) hP hD hS hA [0, 2] [1] [1, 0, 2] rfl rfl (by decide) (by decide) rfl (by decide) rfl (fun H locs hP hD hS => ?_)
            generalize eL3 : mo_srs L2 4 = L3 at hP hD
            refine lv_aload_n hx hb dX3_close_63 rfl (lv_at hl 0 rfl) ?_
            refine va_get (D := D) (ci := 3) (v := .ref m3) (C := RX3) (T := TX3) (N := 17) hx hb hts hi_3 hown hK hP 0 rfl rfl 9 (by decide) fl_16 (fun _ h9 => h9) rfl dX3_close_64 ?_
            refine lv_iconst (v := 0) hx hb dX3_close_67 (by decide) ?_
            refine lv_dup2_11 hx hb dX3_close_68 rfl rfl ?_
            refine xk_lald hx hb hK hP 2 1 rfl rfl 0 rfl (by omega) (by decide) dX3_close_69 ?_
            refine lv_aload_n hx hb dX3_close_70 rfl (lv_at hl 0 rfl) ?_
            refine va_get (D := D) (ci := 3) (v := .ref m3) (C := RX3) (T := TX3) (N := 17) hx hb hts hi_3 hown hK hP 0 rfl rfl 9 (by decide) fl_16 (fun _ h9 => h9) rfl dX3_close_71 ?_
            refine lv_iconst (v := 1) hx hb dX3_close_74 (by decide) ?_
            refine xk_lald hx hb hK hP 2 1 rfl rfl 1 rfl (by omega) (by decide) dX3_close_75 ?_
            refine lv_aload_n hx hb dX3_close_76 rfl (lv_at hl 0 rfl) ?_
            refine va_get (D := D) (ci := 3) (v := .ref m3) (C := RX3) (T := TX3) (N := 17) hx hb hts hi_3 hown hK hP 0 rfl rfl 9 (by decide) fl_16 (fun _ h9 => h9) rfl dX3_close_77 ?_
            refine lv_iconst (v := 2) hx hb dX3_close_80 (by decide) ?_
            refine xk_lald hx hb hK hP 2 1 rfl rfl 2 rfl (by omega) (by decide) dX3_close_81 ?_
            refine lv_lxor hx hb dX3_close_82 ?_
            refine lv_aload_n hx hb dX3_close_83 rfl (lv_at hl 0 rfl) ?_
            refine va_get (D := D) (ci := 3) (v := .ref m3) (C := RX3) (T := TX3) (N := 17) hx hb hts hi_3 hown hK hP 0 rfl rfl 9 (by decide) fl_16 (fun _ h9 => h9) rfl dX3_close_84 ?_
            refine lv_iconst (v := 3) hx hb dX3_close_87 (by decide) ?_
            refine xk_lald hx hb hK hP 2 1 rfl rfl 3 rfl (by omega) (by decide) dX3_close_88 ?_
            refine lv_lxor hx hb dX3_close_89 ?_
            refine lv_lxor hx hb dX3_close_90 ?_
            refine xk_last hx hb hK hP hD hS 2 1 rfl rfl 0 rfl (by omega) (by decide) dX3_close_91 (fun H locs hP hD hS => ?_)
            have hP : va_P D classes [(m0, .inr (3, [.int rd, .int 3, .int 0, .int ln, .ref m1, .long pp, .long qq, .ref m2, .int (nI ((mo_ptake (mo_ppads S (7 - S.2.2)) (ln &&& 255)).2.2)), .ref m3, .ref m4, .ref m5, .ref m6, .ref m7, .ref m8, .ref m9, .ref m10])), (m2, .inl (cI, 128, .inl ((mo_ptake (mo_ppads S (7 - S.2.2)) (ln &&& 255)).2.1))), (m3, .inl (cL, 8, .inr (.inl (vp_updL L3 0 ((L3 0) ^^^ (((L3 1) ^^^ (L3 2)) ^^^ (L3 3)))))))] H := hP
            have hD : va_D A [(m0, .inr (3, [.int rd, .int 3, .int 0, .int ln, .ref m1, .long pp, .long qq, .ref m2, .int (nI ((mo_ptake (mo_ppads S (7 - S.2.2)) (ln &&& 255)).2.2)), .ref m3, .ref m4, .ref m5, .ref m6, .ref m7, .ref m8, .ref m9, .ref m10])), (m2, .inl (cI, 128, .inl ((mo_ptake (mo_ppads S (7 - S.2.2)) (ln &&& 255)).2.1))), (m3, .inl (cL, 8, .inr (.inl (vp_updL L3 0 ((L3 0) ^^^ (((L3 1) ^^^ (L3 2)) ^^^ (L3 3)))))))] := hD
            generalize eL4 : vp_updL L3 0 ((L3 0) ^^^ (((L3 1) ^^^ (L3 2)) ^^^ (L3 3))) = L4 at hP hD
            refine lv_goto (tgt := 169) hx hb dX3_close_92 (by decide) ?_
            refine lv_aload_n hx hb dX3_close_169 rfl (lv_at hl 0 rfl) ?_
            refine lv_iconst (v := 1) hx hb dX3_close_170 (by decide) ?_
            refine va_put (D := D) (ci := 3) (v := .int 1) (ty := .boolean) (C := RX3) (T := TX3) (N := 17) hx hb hts hi_3 tyX3 tyX3_ok nmX3 hown hK hP hD hS 0 rfl rfl 2 (by decide) fl_86 (fun _ h9 => h9) rfl (by decide +kernel) rfl rfl (Nat.le_of_ble_eq_true rfl) dX3_close_171 (fun H locs hP hD hS => ?_)
            have hP : va_P D classes [(m0, .inr (3, [.int rd, .int 3, .int 1, .int ln, .ref m1, .long pp, .long qq, .ref m2, .int (nI ((mo_ptake (mo_ppads S (7 - S.2.2)) (ln &&& 255)).2.2)), .ref m3, .ref m4, .ref m5, .ref m6, .ref m7, .ref m8, .ref m9, .ref m10])), (m2, .inl (cI, 128, .inl ((mo_ptake (mo_ppads S (7 - S.2.2)) (ln &&& 255)).2.1))), (m3, .inl (cL, 8, .inr (.inl L4)))] H := hP
            have hD : va_D A [(m0, .inr (3, [.int rd, .int 3, .int 1, .int ln, .ref m1, .long pp, .long qq, .ref m2, .int (nI ((mo_ptake (mo_ppads S (7 - S.2.2)) (ln &&& 255)).2.2)), .ref m3, .ref m4, .ref m5, .ref m6, .ref m7, .ref m8, .ref m9, .ref m10])), (m2, .inl (cI, 128, .inl ((mo_ptake (mo_ppads S (7 - S.2.2)) (ln &&& 255)).2.1))), (m3, .inl (cL, 8, .inr (.inl L4)))] := hD
            refine lv_iconst (v := 1) hx hb dX3_close_174 (by decide) ?_
            subst eL1
            subst eL2
            subst eL3
            subst eL4
            exact ret _ _ _ _ _ rfl hP hD hS dX3_close_175
          · exact absurd (nI_le (a := 7) (b := ((mo_ppads S (7 - S.2.2)).2.2)) (by omega) (by omega)) c
        | succ d ihloopA =>
          intro j hj H locs ls hP hD hS hl
          have hkj : (mo_ppads S j).2.2 < 7 := by rw [mo_ppads_k S hk]; omega
          refine lv_aload_n hx hb dX3_close_17 rfl (lv_at hl 0 rfl) ?_
          refine va_get (D := D) (ci := 3) (v := .int (nI ((mo_ppads S j).2.2))) (C := RX3) (T := TX3) (N := 17) hx hb hts hi_3 hown hK hP 0 rfl rfl 8 (by decide) fl_92 (fun _ h9 => h9) rfl dX3_close_18 ?_
          refine lv_bipush (v := 7) hx hb dX3_close_21 (by decide) ?_
          refine lv_icmp_ge (tgt := 34) hx hb dX3_close_23 (by decide) (fun c => ?_) (fun c => ?_)
          · exact absurd c (nI_ge (a := ((mo_ppads S j).2.2)) (b := 7) (by omega) (by omega))
          · refine lv_aload_n hx hb dX3_close_26 rfl (lv_at hl 0 rfl) ?_
            refine lv_iconst (v := 0) hx hb dX3_close_27 (by decide) ?_
            refine xk_goV (wr := []) (w2 := [(m0, .inr (3, [.int rd, .int 3, .int 0, .int ln, .ref m1, .long pp, .long qq, .ref m2, .int (nI ((mo_ptake (mo_ppads S j) 0).2.2)), .ref m3, .ref m4, .ref m5, .ref m6, .ref m7, .ref m8, .ref m9, .ref m10])), (m2, .inl (cI, 128, .inl ((mo_ptake (mo_ppads S j) 0).2.1))), (m3, .inl (cL, 8, .inr (.inl ((mo_ptake (mo_ppads S j) 0).1))))]) (va_runV (As := [.int 0]) (rest := []) ⟨hx, hb, hml, hown, hts⟩ (c_X3_take_p l D cI cL H.size m0 m1 m2 m3 m4 m5 m6 m7 m8 m9 m10 rd 0 ln pp qq (mo_ppads S j) 0 (mo_ppads_lt _ hk _)) (cwV 1 hts gX3_close_X3_take rfl rfl rfl (by decide +kernel) ⟨Nat.le_of_ble_eq_true rfl, Nat.le_of_ble_eq_true rfl⟩) ⟨xk_blind xk_0_ok, va_recv hK hP (ci := 3) (q0 := 0) rfl rfl, xk_at xk_0_ok trivial hP hD hK hS hA [0, 1, 2] rfl (by decide) rfl⟩ rfl rfl hl.1 rfl (lv_room (Nat.le_of_ble_eq_true rfl)) dX3_close_28 ⟨Nat.le_of_ble_eq_true rfl, Nat.le_of_ble_eq_true rfl⟩) hP hD hS hA [0, 1, 2] [] [0, 1, 2] rfl rfl (by decide) (by decide) rfl (by decide) rfl (fun H locs hP hD hS => ?_)
            refine lv_goto (tgt := 17) hx hb dX3_close_31 (by decide) ?_
            exact ihloopA (j + 1) (by omega) _ _ _ hP hD hS (lv_sub hl [0] rfl)
      exact loopA (7 - S.2.2) 0 (Nat.zero_add _) _ _ _ hP hD hS (lv_sub hl [0] rfl)
  · exact absurd c (by decide)
abbrev rm_X3_close_s : Room := { frames := 3, cells := 0, slots := 0, locals := 80 }
set_option maxHeartbeats 4000000 in
set_option maxRecDepth 100000 in
theorem c_X3_close_s (l : Launch) (D : va_G) (cI cL : ClassId) (sz : Nat) (m0 : Nat) (m1 : Nat) (m2 : Nat) (m3 : Nat) (m4 : Nat) (m5 : Nat) (m6 : Nat) (m7 : Nat) (m8 : Nat) (m9 : Nat) (m10 : Nat) (rd : Int32) (md : Int32) (ln : Int32) (pp : Int64) (qq : Int64) (cu : Nat → Int64) (S : xm_S) (hm : ¬ md ≤ 0) (hkd : ¬ md = 3) (hk : S.2.2.2.2 < 128) : xk_I l yX3_close wsX3_close rm_X3_close_s xk_0 D classes [(cI, .int), (cL, .long)] [.ref m0] [(m0, .inr (3, [.int rd, .int md, .int 0, .int ln, .ref m1, .long pp, .long qq, .ref m2, .int (nI S.2.2.2.2), .ref m3, .ref m4, .ref m5, .ref m6, .ref m7, .ref m8, .ref m9, .ref m10])), (m2, .inl (cI, 128, .inl S.2.2.2.1)), (m3, .inl (cL, 8, .inr (.inl S.1))), (m4, .inl (cL, 80, .inr (.inl cu))), (m6, .inl (cL, 80, .inr (.inl S.2.1))), (m7, .inl (cL, 8, .inr (.inl S.2.2.1)))] [(m0, .inr (3, [.int rd, .int md, .int 1, .int ln, .ref m1, .long pp, .long qq, .ref m2, .int (nI ((mo_end cu S ln).2.2.2.2)), .ref m3, .ref m4, .ref m5, .ref m6, .ref m7, .ref m8, .ref m9, .ref m10])), (m2, .inl (cI, 128, .inl ((mo_end cu S ln).2.2.2.1))), (m3, .inl (cL, 8, .inr (.inl ((mo_end cu S ln).1)))), (m4, .inl (cL, 80, .inr (.inl cu))), (m6, .inl (cL, 80, .inr (.inl ((mo_end cu S ln).2.1)))), (m7, .inl (cL, 8, .inr (.inl ((mo_end cu S ln).2.2.1))))] (1) sz := by
  refine xk_entZ (cc := cX3_close) (maxL := 2) (by decide) rfl (Nat.le_of_ble_eq_true rfl) (Or.inr rfl) ?_
  intro p e s m args below meth co Q A ls hx hb hml hts hown hA hK hP hD hS hX ret hl
  have hl : lv_has ls 2 [(0, .ref m0)] := hl
  have hi_3 : ∀ w ∈ u_ws RX3 TX3 17, w ∈ wsX3_close := by decide +kernel
  have fl_82 := hts (.fieldLink RX3 82 "WideHashModel" "mode" "I") (by decide +kernel)
  have fl_92 := hts (.fieldLink RX3 92 "WideHashModel" "held" "I") (by decide +kernel)
  have fl_89 := hts (.fieldLink RX3 89 "WideHashModel" "length" "I") (by decide +kernel)
  have fl_16 := hts (.fieldLink RX3 16 "WideHashModel" "state" "[J") (by decide +kernel)
  have kc_126 := hts (.constantLong RX3 126 (255)) (by decide +kernel)
  have kc_128 := hts (.constantLong RX3 128 (8)) (by decide +kernel)
  have fl_86 := hts (.fieldLink RX3 86 "WideHashModel" "closed" "Z") (by decide +kernel)
  have hk1 : (mo_take cu S 128).2.2.2.2 < 128 := mo_take_lt _ _ _ hk
  refine lv_aload_n hx hb dX3_close_0 rfl (lv_at hl 0 rfl) ?_
  refine xk_goI (r := 1) (wr := [(m2, .inl (cI, 128, .inl S.2.2.2.1)), (m3, .inl (cL, 8, .inr (.inl S.1))), (m4, .inl (cL, 80, .inr (.inl cu))), (m6, .inl (cL, 80, .inr (.inl S.2.1))), (m7, .inl (cL, 8, .inr (.inl S.2.2.1)))]) (w2 := [(m0, .inr (3, [.int rd, .int md, .int 0, .int ln, .ref m1, .long pp, .long qq, .ref m2, .int (nI S.2.2.2.2), .ref m3, .ref m4, .ref m5, .ref m6, .ref m7, .ref m8, .ref m9, .ref m10])), (m2, .inl (cI, 128, .inl S.2.2.2.1)), (m3, .inl (cL, 8, .inr (.inl S.1))), (m4, .inl (cL, 80, .inr (.inl cu))), (m6, .inl (cL, 80, .inr (.inl S.2.1))), (m7, .inl (cL, 8, .inr (.inl S.2.2.1)))]) (va_runV (As := []) (rest := []) ⟨hx, hb, hml, hown, hts⟩ (c_X3_isOpen_y l D cI cL s.heap.size m0 m1 m2 m3 m4 m5 m6 m7 m8 m9 m10 rd md ln pp qq (nI S.2.2.2.2) hm) (cwV 0 hts gX3_close_X3_isOpen rfl rfl rfl (by decide +kernel) ⟨Nat.le_of_ble_eq_true rfl, Nat.le_of_ble_eq_true rfl⟩) ⟨xk_blind xk_0_ok, va_recv hK hP (ci := 3) (q0 := 0) rfl rfl, xk_at xk_0_ok trivial hP hD hK hS hA [0] rfl (by decide) rfl⟩ rfl rfl hl.1 rfl (lv_room (Nat.le_of_ble_eq_true rfl)) dX3_close_1 ⟨Nat.le_of_ble_eq_true rfl, Nat.le_of_ble_eq_true rfl⟩) hP hD hS hA [0] [1, 2, 3, 4, 5] [5, 0, 1, 2, 3, 4] rfl rfl (by decide) (by decide) rfl (by decide) rfl (fun H locs hP hD hS => ?_)
  refine lv_if_ne (tgt := 9) hx hb dX3_close_4 (by decide) (fun c => ?_) (fun c => ?_)
  · refine lv_aload_n hx hb dX3_close_9 rfl (lv_at hl 0 rfl) ?_
    refine va_get (D := D) (ci := 3) (v := .int md) (C := RX3) (T := TX3) (N := 17) hx hb hts hi_3 hown hK hP 0 rfl rfl 1 (by decide) fl_82 (fun _ h9 => h9) rfl dX3_close_10 ?_
    refine lv_iconst (v := 3) hx hb dX3_close_13 (by decide) ?_
    refine lv_icmp_ne (tgt := 95) hx hb dX3_close_14 (by decide) (fun c => ?_) (fun c => ?_)
    · refine lv_aload_n hx hb dX3_close_95 rfl (lv_at hl 0 rfl) ?_
      refine lv_sipush (v := 128) hx hb dX3_close_96 (by decide) ?_
      refine xk_goV (wr := []) (w2 := [(m0, .inr (3, [.int rd, .int md, .int 0, .int ln, .ref m1, .long pp, .long qq, .ref m2, .int (nI ((mo_take cu S 128).2.2.2.2)), .ref m3, .ref m4, .ref m5, .ref m6, .ref m7, .ref m8, .ref m9, .ref m10])), (m2, .inl (cI, 128, .inl ((mo_take cu S 128).2.2.2.1))), (m3, .inl (cL, 8, .inr (.inl ((mo_take cu S 128).1)))), (m4, .inl (cL, 80, .inr (.inl cu))), (m6, .inl (cL, 80, .inr (.inl ((mo_take cu S 128).2.1)))), (m7, .inl (cL, 8, .inr (.inl ((mo_take cu S 128).2.2.1))))]) (va_runV (As := [.int 128]) (rest := []) ⟨hx, hb, hml, hown, hts⟩ (c_X3_take_s l D cI cL H.size m0 m1 m2 m3 m4 m5 m6 m7 m8 m9 m10 rd md 0 ln pp qq cu S 128 hkd (by omega)) (cwV 1 hts gX3_close_X3_take rfl rfl rfl (by decide +kernel) ⟨Nat.le_of_ble_eq_true rfl, Nat.le_of_ble_eq_true rfl⟩) ⟨xk_blind xk_0_ok, va_recv hK hP (ci := 3) (q0 := 0) rfl rfl, xk_at xk_0_ok trivial hP hD hK hS hA [0, 1, 2, 3, 4, 5] rfl (by decide) rfl⟩ rfl rfl hl.1 rfl (lv_room (Nat.le_of_ble_eq_true rfl)) dX3_close_99 ⟨Nat.le_of_ble_eq_true rfl, Nat.le_of_ble_eq_true rfl⟩) hP hD hS hA [0, 1, 2, 3, 4, 5] [] [0, 1, 2, 3, 4, 5] rfl rfl (by decide) (by decide) rfl (by decide) rfl (fun H locs hP hD hS => ?_)
      have loopA : ∀ (d : Nat) (j : Nat), (hj : j + d = (240 - (mo_take cu S 128).2.2.2.2) % 128) → ∀ (H : Heap) (locs : List Loc) (ls : Array Slot), va_P D classes [(m0, .inr (3, [.int rd, .int md, .int 0, .int ln, .ref m1, .long pp, .long qq, .ref m2, .int (nI ((mo_pads cu (mo_take cu S 128) j).2.2.2.2)), .ref m3, .ref m4, .ref m5, .ref m6, .ref m7, .ref m8, .ref m9, .ref m10])), (m2, .inl (cI, 128, .inl ((mo_pads cu (mo_take cu S 128) j).2.2.2.1))), (m3, .inl (cL, 8, .inr (.inl ((mo_pads cu (mo_take cu S 128) j).1)))), (m4, .inl (cL, 80, .inr (.inl cu))), (m6, .inl (cL, 80, .inr (.inl ((mo_pads cu (mo_take cu S 128) j).2.1)))), (m7, .inl (cL, 8, .inr (.inl ((mo_pads cu (mo_take cu S 128) j).2.2.1))))] H → va_D A [(m0, .inr (3, [.int rd, .int md, .int 0, .int ln, .ref m1, .long pp, .long qq, .ref m2, .int (nI ((mo_pads cu (mo_take cu S 128) j).2.2.2.2)), .ref m3, .ref m4, .ref m5, .ref m6, .ref m7, .ref m8, .ref m9, .ref m10])), (m2, .inl (cI, 128, .inl ((mo_pads cu (mo_take cu S 128) j).2.2.2.1))), (m3, .inl (cL, 8, .inr (.inl ((mo_pads cu (mo_take cu S 128) j).1)))), (m4, .inl (cL, 80, .inr (.inl cu))), (m6, .inl (cL, 80, .inr (.inl ((mo_pads cu (mo_take cu S 128) j).2.1)))), (m7, .inl (cL, 8, .inr (.inl ((mo_pads cu (mo_take cu S 128) j).2.2.1))))] → va_S A s.heap H locs → lv_has ls 2 [(0, .ref m0)] → W p l e rm_X3_close_s s m args below meth co H locs 0 0 Q (F0 m 102 ls []) := by
        intro d
        induction d with
        | zero =>
          intro j hj H locs ls hP hD hS hl
          obtain rfl : j = (240 - (mo_take cu S 128).2.2.2.2) % 128 := by omega
          have hkz : (mo_pads cu (mo_take cu S 128) ((240 - (mo_take cu S 128).2.2.2.2) % 128)).2.2.2.2 = 112 := by rw [mo_pads_k cu _ hk1]; omega
          refine lv_aload_n hx hb dX3_close_102 rfl (lv_at hl 0 rfl) ?_
          refine va_get (D := D) (ci := 3) (v := .int (nI ((mo_pads cu (mo_take cu S 128) ((240 - (mo_take cu S 128).2.2.2.2) % 128)).2.2.2.2))) (C := RX3) (T := TX3) (N := 17) hx hb hts hi_3 hown hK hP 0 rfl rfl 8 (by decide) fl_92 (fun _ h9 => h9) rfl dX3_close_103 ?_
          refine lv_bipush (v := 112) hx hb dX3_close_106 (by decide) ?_
          refine lv_icmp_eq (tgt := 119) hx hb dX3_close_108 (by decide) (fun c => ?_) (fun c => ?_)
          · refine lv_iconst (v := 0) hx hb dX3_close_119 (by decide) ?_
            refine lv_istore_n (lv' := [(1, .int 0), (0, .ref m0)]) hx hb dX3_close_120 rfl hl (by decide) rfl (fun ls hl => ?_)
            have loopB : ∀ (d : Nat) (k : Nat), (hkk : k + d = 16) → ∀ (H : Heap) (locs : List Loc) (ls : Array Slot), va_P D classes [(m0, .inr (3, [.int rd, .int md, .int 0, .int ln, .ref m1, .long pp, .long qq, .ref m2, .int (nI ((mo_lens cu (mo_endS cu S) ln k).2.2.2.2)), .ref m3, .ref m4, .ref m5, .ref m6, .ref m7, .ref m8, .ref m9, .ref m10])), (m2, .inl (cI, 128, .inl ((mo_lens cu (mo_endS cu S) ln k).2.2.2.1))), (m3, .inl (cL, 8, .inr (.inl ((mo_lens cu (mo_endS cu S) ln k).1)))), (m4, .inl (cL, 80, .inr (.inl cu))), (m6, .inl (cL, 80, .inr (.inl ((mo_lens cu (mo_endS cu S) ln k).2.1)))), (m7, .inl (cL, 8, .inr (.inl ((mo_lens cu (mo_endS cu S) ln k).2.2.1))))] H → va_D A [(m0, .inr (3, [.int rd, .int md, .int 0, .int ln, .ref m1, .long pp, .long qq, .ref m2, .int (nI ((mo_lens cu (mo_endS cu S) ln k).2.2.2.2)), .ref m3, .ref m4, .ref m5, .ref m6, .ref m7, .ref m8, .ref m9, .ref m10])), (m2, .inl (cI, 128, .inl ((mo_lens cu (mo_endS cu S) ln k).2.2.2.1))), (m3, .inl (cL, 8, .inr (.inl ((mo_lens cu (mo_endS cu S) ln k).1)))), (m4, .inl (cL, 80, .inr (.inl cu))), (m6, .inl (cL, 80, .inr (.inl ((mo_lens cu (mo_endS cu S) ln k).2.1)))), (m7, .inl (cL, 8, .inr (.inl ((mo_lens cu (mo_endS cu S) ln k).2.2.1))))] → va_S A s.heap H locs → lv_has ls 2 [(0, .ref m0), (1, .int (nI k))] → W p l e rm_X3_close_s s m args below meth co H locs 0 0 Q (F0 m 121 ls []) := by
              intro d
              induction d with
              | zero =>
                intro k hkk H locs ls hP hD hS hl
                obtain rfl : k = 16 := by omega
                rw [show mo_lens cu (mo_endS cu S) ln 16 = mo_end cu S ln from rfl] at hP hD
                refine lv_iload_n hx hb dX3_close_121 rfl (lv_at hl 1 rfl) ?_
                refine lv_bipush (v := 16) hx hb dX3_close_122 (by decide) ?_
                refine lv_icmp_ge (tgt := 169) hx hb dX3_close_124 (by decide) (fun c => ?_) (fun c => ?_)
                · refine lv_aload_n hx hb dX3_close_169 rfl (lv_at hl 0 rfl) ?_
                  refine lv_iconst (v := 1) hx hb dX3_close_170 (by decide) ?_
                  refine va_put (D := D) (ci := 3) (v := .int 1) (ty := .boolean) (C := RX3) (T := TX3) (N := 17) hx hb hts hi_3 tyX3 tyX3_ok nmX3 hown hK hP hD hS 0 rfl rfl 2 (by decide) fl_86 (fun _ h9 => h9) rfl (by decide +kernel) rfl rfl (Nat.le_of_ble_eq_true rfl) dX3_close_171 (fun H locs hP hD hS => ?_)
                  have hP : va_P D classes [(m0, .inr (3, [.int rd, .int md, .int 1, .int ln, .ref m1, .long pp, .long qq, .ref m2, .int (nI ((mo_end cu S ln).2.2.2.2)), .ref m3, .ref m4, .ref m5, .ref m6, .ref m7, .ref m8, .ref m9, .ref m10])), (m2, .inl (cI, 128, .inl ((mo_end cu S ln).2.2.2.1))), (m3, .inl (cL, 8, .inr (.inl ((mo_end cu S ln).1)))), (m4, .inl (cL, 80, .inr (.inl cu))), (m6, .inl (cL, 80, .inr (.inl ((mo_end cu S ln).2.1)))), (m7, .inl (cL, 8, .inr (.inl ((mo_end cu S ln).2.2.1))))] H := hP
                  have hD : va_D A [(m0, .inr (3, [.int rd, .int md, .int 1, .int ln, .ref m1, .long pp, .long qq, .ref m2, .int (nI ((mo_end cu S ln).2.2.2.2)), .ref m3, .ref m4, .ref m5, .ref m6, .ref m7, .ref m8, .ref m9, .ref m10])), (m2, .inl (cI, 128, .inl ((mo_end cu S ln).2.2.2.1))), (m3, .inl (cL, 8, .inr (.inl ((mo_end cu S ln).1)))), (m4, .inl (cL, 80, .inr (.inl cu))), (m6, .inl (cL, 80, .inr (.inl ((mo_end cu S ln).2.1)))), (m7, .inl (cL, 8, .inr (.inl ((mo_end cu S ln).2.2.1))))] := hD
                  refine lv_iconst (v := 1) hx hb dX3_close_174 (by decide) ?_
                  exact ret _ _ _ _ _ rfl hP hD hS dX3_close_175
                · exact absurd (nI_le (a := 16) (b := 16) (by omega) (by omega)) c
              | succ d ihloopB =>
                intro k hkk H locs ls hP hD hS hl
                have hke : (mo_lens cu (mo_endS cu S) ln k).2.2.2.2 < 128 := mo_lens_lt _ _ _ (mo_pads_lt _ _ hk1 _) _
                refine lv_iload_n hx hb dX3_close_121 rfl (lv_at hl 1 rfl) ?_
                refine lv_bipush (v := 16) hx hb dX3_close_122 (by decide) ?_
                refine lv_icmp_ge (tgt := 169) hx hb dX3_close_124 (by decide) (fun c => ?_) (fun c => ?_)
                · exact absurd c (nI_ge (a := k) (b := 16) (by omega) (by omega))
                · refine lv_aload_n hx hb dX3_close_127 rfl (lv_at hl 0 rfl) ?_
                  refine lv_iload_n hx hb dX3_close_128 rfl (lv_at hl 1 rfl) ?_
                  refine lv_bipush (v := 8) hx hb dX3_close_129 (by decide) ?_
                  refine lv_icmp_ge (tgt := 138) hx hb dX3_close_131 (by decide) (fun c1 => ?_) (fun c1 => ?_)
                  · have c2 : ¬ k < 8 := Nat.not_lt.mpr ((nI_leI (by omega) (by omega)).mp c1)
                    refine lv_ldc2 (v := 8) hx hb hown kc_128 dX3_close_138 ?_
                    refine lv_aload_n hx hb dX3_close_141 rfl (lv_at hl 0 rfl) ?_
                    refine va_get (D := D) (ci := 3) (v := .int ln) (C := RX3) (T := TX3) (N := 17) hx hb hts hi_3 hown hK hP 0 rfl rfl 3 (by decide) fl_89 (fun _ h9 => h9) rfl dX3_close_142 ?_
                    refine lv_i2l (v := (Int32.toInt64 ln)) hx hb dX3_close_145 rfl ?_
                    refine lv_lmul hx hb dX3_close_146 ?_
                    refine lv_bipush (v := 120) hx hb dX3_close_147 (by decide) ?_
                    refine lv_bipush (v := 8) hx hb dX3_close_149 (by decide) ?_
                    refine lv_iload_n hx hb dX3_close_151 rfl (lv_at hl 1 rfl) ?_
                    refine xk_imulN hx hb 8 k (8 * k) rfl rfl (by omega) dX3_close_152 ?_
                    refine xk_isubN hx hb 120 (8 * k) (120 - (8 * k)) rfl rfl (by omega) dX3_close_153 ?_
                    refine lv_lshr (v := (xm_r (8 * (Int32.toInt64 ln)) (nI (120 - (8 * k))))) hx hb dX3_close_154 rfl ?_
                    refine lv_ldc2 (v := 255) hx hb hown kc_126 dX3_close_155 ?_
                    refine lv_land hx hb dX3_close_158 ?_
                    refine lv_l2i (v := (Int64.toInt32 ((xm_r (8 * (Int32.toInt64 ln)) (nI (120 - (8 * k)))) &&& 255))) hx hb dX3_close_159 rfl ?_
                    refine xk_as (if k < 8 then 0 else mo_lb ln k) ((if_neg c2).symm) ?_
                    refine xk_goV (wr := []) (w2 := [(m0, .inr (3, [.int rd, .int md, .int 0, .int ln, .ref m1, .long pp, .long qq, .ref m2, .int (nI ((mo_take cu (mo_lens cu (mo_endS cu S) ln k) (if k < 8 then 0 else mo_lb ln k)).2.2.2.2)), .ref m3, .ref m4, .ref m5, .ref m6, .ref m7, .ref m8, .ref m9, .ref m10])), (m2, .inl (cI, 128, .inl ((mo_take cu (mo_lens cu (mo_endS cu S) ln k) (if k < 8 then 0 else mo_lb ln k)).2.2.2.1))), (m3, .inl (cL, 8, .inr (.inl ((mo_take cu (mo_lens cu (mo_endS cu S) ln k) (if k < 8 then 0 else mo_lb ln k)).1)))), (m4, .inl (cL, 80, .inr (.inl cu))), (m6, .inl (cL, 80, .inr (.inl ((mo_take cu (mo_lens cu (mo_endS cu S) ln k) (if k < 8 then 0 else mo_lb ln k)).2.1)))), (m7, .inl (cL, 8, .inr (.inl ((mo_take cu (mo_lens cu (mo_endS cu S) ln k) (if k < 8 then 0 else mo_lb ln k)).2.2.1))))]) (va_runV (As := [.int (if k < 8 then 0 else mo_lb ln k)]) (rest := []) ⟨hx, hb, hml, hown, hts⟩ (c_X3_take_s l D cI cL H.size m0 m1 m2 m3 m4 m5 m6 m7 m8 m9 m10 rd md 0 ln pp qq cu (mo_lens cu (mo_endS cu S) ln k) (if k < 8 then 0 else mo_lb ln k) hkd (by omega)) (cwV 1 hts gX3_close_X3_take rfl rfl rfl (by decide +kernel) ⟨Nat.le_of_ble_eq_true rfl, Nat.le_of_ble_eq_true rfl⟩) ⟨xk_blind xk_0_ok, va_recv hK hP (ci := 3) (q0 := 0) rfl rfl, xk_at xk_0_ok trivial hP hD hK hS hA [0, 1, 2, 3, 4, 5] rfl (by decide) rfl⟩ rfl rfl hl.1 rfl (lv_room (Nat.le_of_ble_eq_true rfl)) dX3_close_160 ⟨Nat.le_of_ble_eq_true rfl, Nat.le_of_ble_eq_true rfl⟩) hP hD hS hA [0, 1, 2, 3, 4, 5] [] [0, 1, 2, 3, 4, 5] rfl rfl (by decide) (by decide) rfl (by decide) rfl (fun H locs hP hD hS => ?_)
                    refine lv_iinc (v := nI (k + 1)) (lv' := [(1, .int (nI (k + 1))), (0, .ref m0)]) hx hb dX3_close_163 hl (k := 1) rfl (xk_i1 (by omega)) (by decide) rfl (fun ls hl => ?_)
                    refine lv_goto (tgt := 121) hx hb dX3_close_166 (by decide) ?_
                    exact ihloopB (k + 1) (by omega) _ _ _ hP hD hS (lv_sub hl [1, 0] rfl)
                  · have c2 : k < 8 := Nat.not_le.mp (fun h => c1 (nI_le h (by omega)))
                    refine lv_iconst (v := 0) hx hb dX3_close_134 (by decide) ?_
                    refine lv_goto (tgt := 160) hx hb dX3_close_135 (by decide) ?_
                    refine xk_as (if k < 8 then 0 else mo_lb ln k) ((if_pos c2).symm) ?_
                    refine xk_goV (wr := []) (w2 := [(m0, .inr (3, [.int rd, .int md, .int 0, .int ln, .ref m1, .long pp, .long qq, .ref m2, .int (nI ((mo_take cu (mo_lens cu (mo_endS cu S) ln k) (if k < 8 then 0 else mo_lb ln k)).2.2.2.2)), .ref m3, .ref m4, .ref m5, .ref m6, .ref m7, .ref m8, .ref m9, .ref m10])), (m2, .inl (cI, 128, .inl ((mo_take cu (mo_lens cu (mo_endS cu S) ln k) (if k < 8 then 0 else mo_lb ln k)).2.2.2.1))), (m3, .inl (cL, 8, .inr (.inl ((mo_take cu (mo_lens cu (mo_endS cu S) ln k) (if k < 8 then 0 else mo_lb ln k)).1)))), (m4, .inl (cL, 80, .inr (.inl cu))), (m6, .inl (cL, 80, .inr (.inl ((mo_take cu (mo_lens cu (mo_endS cu S) ln k) (if k < 8 then 0 else mo_lb ln k)).2.1)))), (m7, .inl (cL, 8, .inr (.inl ((mo_take cu (mo_lens cu (mo_endS cu S) ln k) (if k < 8 then 0 else mo_lb ln k)).2.2.1))))]) (va_runV (As := [.int (if k < 8 then 0 else mo_lb ln k)]) (rest := []) ⟨hx, hb, hml, hown, hts⟩ (c_X3_take_s l D cI cL H.size m0 m1 m2 m3 m4 m5 m6 m7 m8 m9 m10 rd md 0 ln pp qq cu (mo_lens cu (mo_endS cu S) ln k) (if k < 8 then 0 else mo_lb ln k) hkd (by omega)) (cwV 1 hts gX3_close_X3_take rfl rfl rfl (by decide +kernel) ⟨Nat.le_of_ble_eq_true rfl, Nat.le_of_ble_eq_true rfl⟩) ⟨xk_blind xk_0_ok, va_recv hK hP (ci := 3) (q0 := 0) rfl rfl, xk_at xk_0_ok trivial hP hD hK hS hA [0, 1, 2, 3, 4, 5] rfl (by decide) rfl⟩ rfl rfl hl.1 rfl (lv_room (Nat.le_of_ble_eq_true rfl)) dX3_close_160 ⟨Nat.le_of_ble_eq_true rfl, Nat.le_of_ble_eq_true rfl⟩) hP hD hS hA [0, 1, 2, 3, 4, 5] [] [0, 1, 2, 3, 4, 5] rfl rfl (by decide) (by decide) rfl (by decide) rfl (fun H locs hP hD hS => ?_)
                    refine lv_iinc (v := nI (k + 1)) (lv' := [(1, .int (nI (k + 1))), (0, .ref m0)]) hx hb dX3_close_163 hl (k := 1) rfl (xk_i1 (by omega)) (by decide) rfl (fun ls hl => ?_)
                    refine lv_goto (tgt := 121) hx hb dX3_close_166 (by decide) ?_
                    exact ihloopB (k + 1) (by omega) _ _ _ hP hD hS (lv_sub hl [1, 0] rfl)
            exact loopB 16 0 rfl _ _ _ hP hD hS (lv_sub hl [1, 0] rfl)
          · exact absurd (by rw [hkz]; rfl) c
        | succ d ihloopA =>
          intro j hj H locs ls hP hD hS hl
          have hkj : ¬ (mo_pads cu (mo_take cu S 128) j).2.2.2.2 = 112 := by rw [mo_pads_k cu _ hk1]; omega
          have hkl : (mo_pads cu (mo_take cu S 128) j).2.2.2.2 < 128 := mo_pads_lt _ _ hk1 _
          refine lv_aload_n hx hb dX3_close_102 rfl (lv_at hl 0 rfl) ?_
          refine va_get (D := D) (ci := 3) (v := .int (nI ((mo_pads cu (mo_take cu S 128) j).2.2.2.2))) (C := RX3) (T := TX3) (N := 17) hx hb hts hi_3 hown hK hP 0 rfl rfl 8 (by decide) fl_92 (fun _ h9 => h9) rfl dX3_close_103 ?_
          refine lv_bipush (v := 112) hx hb dX3_close_106 (by decide) ?_
          refine lv_icmp_eq (tgt := 119) hx hb dX3_close_108 (by decide) (fun c => ?_) (fun c => ?_)
          · exact absurd ((nI_eq (a := ((mo_pads cu (mo_take cu S 128) j).2.2.2.2)) (b := 112) (by omega) (by omega)).mp c) (by omega)
          · refine lv_aload_n hx hb dX3_close_111 rfl (lv_at hl 0 rfl) ?_
            refine lv_iconst (v := 0) hx hb dX3_close_112 (by decide) ?_
            refine xk_goV (wr := []) (w2 := [(m0, .inr (3, [.int rd, .int md, .int 0, .int ln, .ref m1, .long pp, .long qq, .ref m2, .int (nI ((mo_take cu (mo_pads cu (mo_take cu S 128) j) 0).2.2.2.2)), .ref m3, .ref m4, .ref m5, .ref m6, .ref m7, .ref m8, .ref m9, .ref m10])), (m2, .inl (cI, 128, .inl ((mo_take cu (mo_pads cu (mo_take cu S 128) j) 0).2.2.2.1))), (m3, .inl (cL, 8, .inr (.inl ((mo_take cu (mo_pads cu (mo_take cu S 128) j) 0).1)))), (m4, .inl (cL, 80, .inr (.inl cu))), (m6, .inl (cL, 80, .inr (.inl ((mo_take cu (mo_pads cu (mo_take cu S 128) j) 0).2.1)))), (m7, .inl (cL, 8, .inr (.inl ((mo_take cu (mo_pads cu (mo_take cu S 128) j) 0).2.2.1))))]) (va_runV (As := [.int 0]) (rest := []) ⟨hx, hb, hml, hown, hts⟩ (c_X3_take_s l D cI cL H.size m0 m1 m2 m3 m4 m5 m6 m7 m8 m9 m10 rd md 0 ln pp qq cu (mo_pads cu (mo_take cu S 128) j) 0 hkd (by omega)) (cwV 1 hts gX3_close_X3_take rfl rfl rfl (by decide +kernel) ⟨Nat.le_of_ble_eq_true rfl, Nat.le_of_ble_eq_true rfl⟩) ⟨xk_blind xk_0_ok, va_recv hK hP (ci := 3) (q0 := 0) rfl rfl, xk_at xk_0_ok trivial hP hD hK hS hA [0, 1, 2, 3, 4, 5] rfl (by decide) rfl⟩ rfl rfl hl.1 rfl (lv_room (Nat.le_of_ble_eq_true rfl)) dX3_close_113 ⟨Nat.le_of_ble_eq_true rfl, Nat.le_of_ble_eq_true rfl⟩) hP hD hS hA [0, 1, 2, 3, 4, 5] [] [0, 1, 2, 3, 4, 5] rfl rfl (by decide) (by decide) rfl (by decide) rfl (fun H locs hP hD hS => ?_)
            refine lv_goto (tgt := 102) hx hb dX3_close_116 (by decide) ?_
            exact ihloopA (j + 1) (by omega) _ _ _ hP hD hS (lv_sub hl [0] rfl)
      exact loopA ((240 - (mo_take cu S 128).2.2.2.2) % 128) 0 (Nat.zero_add _) _ _ _ hP hD hS (lv_sub hl [0] rfl)
    · exact absurd c hkd
  · exact absurd c (by decide)
