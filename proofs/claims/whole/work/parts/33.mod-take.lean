abbrev rm_X3_take_p : Room := { frames := 4, cells := 0, slots := 0, locals := 90 }
set_option maxHeartbeats 4000000 in
set_option maxRecDepth 100000 in
theorem c_X3_take_p (l : Launch) (D : va_G) (cI cL : ClassId) (sz : Nat) (m0 : Nat) (m1 : Nat) (m2 : Nat) (m3 : Nat) (m4 : Nat) (m5 : Nat) (m6 : Nat) (m7 : Nat) (m8 : Nat) (m9 : Nat) (m10 : Nat) (rd : Int32) (cd : Int32) (ln : Int32) (pp : Int64) (qq : Int64) (S : xq_S) (b : Int32) (hk : S.2.2 < 8) : xk_V l yX3_take wsX3_take rm_X3_take_p xk_0 D classes [(cI, .int), (cL, .long)] [.ref m0, .int b] [(m0, .inr (3, [.int rd, .int 3, .int cd, .int ln, .ref m1, .long pp, .long qq, .ref m2, .int (nI S.2.2), .ref m3, .ref m4, .ref m5, .ref m6, .ref m7, .ref m8, .ref m9, .ref m10])), (m2, .inl (cI, 128, .inl S.2.1)), (m3, .inl (cL, 8, .inr (.inl S.1)))] [(m0, .inr (3, [.int rd, .int 3, .int cd, .int ln, .ref m1, .long pp, .long qq, .ref m2, .int (nI ((mo_ptake S b).2.2)), .ref m3, .ref m4, .ref m5, .ref m6, .ref m7, .ref m8, .ref m9, .ref m10])), (m2, .inl (cI, 128, .inl ((mo_ptake S b).2.1))), (m3, .inl (cL, 8, .inr (.inl ((mo_ptake S b).1))))] sz := by
  refine xk_entV (cc := cX3_take) (maxL := 2) (by decide) rfl (Nat.le_of_ble_eq_true rfl) ?_
  intro p e s m args below meth co Q A ls hx hb hml hts hown hA hK hP hD hS hX ret hl
  have hl : lv_has ls 2 [(0, .ref m0), (1, .int b)] := hl
  have hi_3 : ∀ w ∈ u_ws RX3 TX3 17, w ∈ wsX3_take := by decide +kernel
  have fl_13 := hts (.fieldLink RX3 13 "WideHashModel" "rest" "[I") (by decide +kernel)
  have fl_92 := hts (.fieldLink RX3 92 "WideHashModel" "held" "I") (by decide +kernel)
  have fl_82 := hts (.fieldLink RX3 82 "WideHashModel" "mode" "I") (by decide +kernel)
  refine lv_aload_n hx hb dX3_take_0 rfl (lv_at hl 0 rfl) ?_
  refine va_get (D := D) (ci := 3) (v := .ref m2) (C := RX3) (T := TX3) (N := 17) hx hb hts hi_3 hown hK hP 0 rfl rfl 7 (by decide) fl_13 (fun _ h9 => h9) rfl dX3_take_1 ?_
  refine lv_aload_n hx hb dX3_take_4 rfl (lv_at hl 0 rfl) ?_
  refine va_get (D := D) (ci := 3) (v := .int (nI S.2.2)) (C := RX3) (T := TX3) (N := 17) hx hb hts hi_3 hown hK hP 0 rfl rfl 8 (by decide) fl_92 (fun _ h9 => h9) rfl dX3_take_5 ?_
  refine lv_iload_n hx hb dX3_take_8 rfl (lv_at hl 1 rfl) ?_
  refine xk_iast hx hb hK hP hD hS 1 0 rfl rfl S.2.2 rfl (by omega) (by decide) dX3_take_9 (fun H locs hP hD hS => ?_)
  have hP : va_P D classes [(m0, .inr (3, [.int rd, .int 3, .int cd, .int ln, .ref m1, .long pp, .long qq, .ref m2, .int (nI S.2.2), .ref m3, .ref m4, .ref m5, .ref m6, .ref m7, .ref m8, .ref m9, .ref m10])), (m2, .inl (cI, 128, .inl (upd S.2.1 S.2.2 b))), (m3, .inl (cL, 8, .inr (.inl S.1)))] H := hP
  have hD : va_D A [(m0, .inr (3, [.int rd, .int 3, .int cd, .int ln, .ref m1, .long pp, .long qq, .ref m2, .int (nI S.2.2), .ref m3, .ref m4, .ref m5, .ref m6, .ref m7, .ref m8, .ref m9, .ref m10])), (m2, .inl (cI, 128, .inl (upd S.2.1 S.2.2 b))), (m3, .inl (cL, 8, .inr (.inl S.1)))] := hD
  generalize eL1 : upd S.2.1 S.2.2 b = L1 at hP hD
  refine lv_aload_n hx hb dX3_take_10 rfl (lv_at hl 0 rfl) ?_
  refine lv_dup hx hb dX3_take_11 rfl ?_
  refine va_get (D := D) (ci := 3) (v := .int (nI S.2.2)) (C := RX3) (T := TX3) (N := 17) hx hb hts hi_3 hown hK hP 0 rfl rfl 8 (by decide) fl_92 (fun _ h9 => h9) rfl dX3_take_12 ?_
  refine lv_iconst (v := 1) hx hb dX3_take_15 (by decide) ?_
  refine xk_iaddN hx hb S.2.2 1 (S.2.2 + 1) rfl rfl (by omega) dX3_take_16 ?_
  refine va_put (D := D) (ci := 3) (v := .int (nI (S.2.2 + 1))) (ty := .int) (C := RX3) (T := TX3) (N := 17) hx hb hts hi_3 tyX3 tyX3_ok nmX3 hown hK hP hD hS 0 rfl rfl 8 (by decide) fl_92 (fun _ h9 => h9) rfl (by decide +kernel) rfl rfl (Nat.le_of_ble_eq_true rfl) dX3_take_17 (fun H locs hP hD hS => ?_)
  have hP : va_P D classes [(m0, .inr (3, [.int rd, .int 3, .int cd, .int ln, .ref m1, .long pp, .long qq, .ref m2, .int (nI (S.2.2 + 1)), .ref m3, .ref m4, .ref m5, .ref m6, .ref m7, .ref m8, .ref m9, .ref m10])), (m2, .inl (cI, 128, .inl L1)), (m3, .inl (cL, 8, .inr (.inl S.1)))] H := hP
  have hD : va_D A [(m0, .inr (3, [.int rd, .int 3, .int cd, .int ln, .ref m1, .long pp, .long qq, .ref m2, .int (nI (S.2.2 + 1)), .ref m3, .ref m4, .ref m5, .ref m6, .ref m7, .ref m8, .ref m9, .ref m10])), (m2, .inl (cI, 128, .inl L1)), (m3, .inl (cL, 8, .inr (.inl S.1)))] := hD
  refine lv_aload_n hx hb dX3_take_20 rfl (lv_at hl 0 rfl) ?_
  refine va_get (D := D) (ci := 3) (v := .int 3) (C := RX3) (T := TX3) (N := 17) hx hb hts hi_3 hown hK hP 0 rfl rfl 1 (by decide) fl_82 (fun _ h9 => h9) rfl dX3_take_21 ?_
  refine lv_iconst (v := 3) hx hb dX3_take_24 (by decide) ?_
  refine lv_icmp_ne (tgt := 49) hx hb dX3_take_25 (by decide) (fun c => ?_) (fun c => ?_)
  · exact absurd rfl c
  · refine lv_aload_n hx hb dX3_take_28 rfl (lv_at hl 0 rfl) ?_
    refine va_get (D := D) (ci := 3) (v := .int (nI (S.2.2 + 1))) (C := RX3) (T := TX3) (N := 17) hx hb hts hi_3 hown hK hP 0 rfl rfl 8 (by decide) fl_92 (fun _ h9 => h9) rfl dX3_take_29 ?_
    refine lv_bipush (v := 8) hx hb dX3_take_32 (by decide) ?_
    refine lv_icmp_ne (tgt := 49) hx hb dX3_take_34 (by decide) (fun c1 => ?_) (fun c1 => ?_)
    · have c2 : ¬ (S.2.2 + 1 = 8) := fun h => c1 (by rw [h]; rfl)
      refine lv_aload_n hx hb dX3_take_49 rfl (lv_at hl 0 rfl) ?_
      refine va_get (D := D) (ci := 3) (v := .int (nI (S.2.2 + 1))) (C := RX3) (T := TX3) (N := 17) hx hb hts hi_3 hown hK hP 0 rfl rfl 8 (by decide) fl_92 (fun _ h9 => h9) rfl dX3_take_50 ?_
      refine lv_sipush (v := 128) hx hb dX3_take_53 (by decide) ?_
      refine lv_icmp_ne (tgt := 68) hx hb dX3_take_56 (by decide) (fun c => ?_) (fun c => ?_)
      · subst eL1
        rw [show mo_ptake S b = _ from if_neg c2] at ret
        exact ret _ _ _ _ hP hD hS dX3_take_68
      · exact absurd ((nI_eq (a := (S.2.2 + 1)) (b := 128) (by omega) (by omega)).mp c) (by omega)
    · have c2 : S.2.2 + 1 = 8 := (nI_eq (by omega) (by omega)).mp c1
      refine lv_aload_n hx hb dX3_take_37 rfl (lv_at hl 0 rfl) ?_
      refine xk_goV (wr := []) (w2 := [(m0, .inr (3, [.int rd, .int 3, .int cd, .int ln, .ref m1, .long pp, .long qq, .ref m2, .int (nI (S.2.2 + 1)), .ref m3, .ref m4, .ref m5, .ref m6, .ref m7, .ref m8, .ref m9, .ref m10])), (m2, .inl (cI, 128, .inl L1)), (m3, .inl (cL, 8, .inr (.inl (mo_sb S.1 L1))))]) (va_runV (As := []) (rest := []) ⟨hx, hb, hml, hown, hts⟩ (c_X3_sipBlock l D cI cL H.size m0 m1 m2 m3 m4 m5 m6 m7 m8 m9 m10 rd 3 cd ln pp qq (nI (S.2.2 + 1)) L1 S.1) (cwV 0 hts gX3_take_X3_sipBlock rfl rfl rfl (by decide +kernel) ⟨Nat.le_of_ble_eq_true rfl, Nat.le_of_ble_eq_true rfl⟩) ⟨xk_blind xk_0_ok, va_recv hK hP (ci := 3) (q0 := 0) rfl rfl, xk_at xk_0_ok trivial hP hD hK hS hA [0, 1, 2] rfl (by decide) rfl⟩ rfl rfl hl.1 rfl (lv_room (Nat.le_of_ble_eq_true rfl)) dX3_take_38 ⟨Nat.le_of_ble_eq_true rfl, Nat.le_of_ble_eq_true rfl⟩) hP hD hS hA [0, 1, 2] [] [0, 1, 2] rfl rfl (by decide) (by decide) rfl (by decide) rfl (fun H locs hP hD hS => ?_)
      generalize eL2 : mo_sb S.1 L1 = L2 at hP hD
      refine lv_aload_n hx hb dX3_take_41 rfl (lv_at hl 0 rfl) ?_
      refine lv_iconst (v := 0) hx hb dX3_take_42 (by decide) ?_
      refine va_put (D := D) (ci := 3) (v := .int 0) (ty := .int) (C := RX3) (T := TX3) (N := 17) hx hb hts hi_3 tyX3 tyX3_ok nmX3 hown hK hP hD hS 0 rfl rfl 8 (by decide) fl_92 (fun _ h9 => h9) rfl (by decide +kernel) rfl rfl (Nat.le_of_ble_eq_true rfl) dX3_take_43 (fun H locs hP hD hS => ?_)
      have hP : va_P D classes [(m0, .inr (3, [.int rd, .int 3, .int cd, .int ln, .ref m1, .long pp, .long qq, .ref m2, .int 0, .ref m3, .ref m4, .ref m5, .ref m6, .ref m7, .ref m8, .ref m9, .ref m10])), (m2, .inl (cI, 128, .inl L1)), (m3, .inl (cL, 8, .inr (.inl L2)))] H := hP
      have hD : va_D A [(m0, .inr (3, [.int rd, .int 3, .int cd, .int ln, .ref m1, .long pp, .long qq, .ref m2, .int 0, .ref m3, .ref m4, .ref m5, .ref m6, .ref m7, .ref m8, .ref m9, .ref m10])), (m2, .inl (cI, 128, .inl L1)), (m3, .inl (cL, 8, .inr (.inl L2)))] := hD
      refine lv_goto (tgt := 68) hx hb dX3_take_46 (by decide) ?_
      subst eL1
      subst eL2
      rw [show mo_ptake S b = _ from if_pos c2] at ret
      exact ret _ _ _ _ hP hD hS dX3_take_68
abbrev rm_X3_take_s : Room := { frames := 2, cells := 0, slots := 0, locals := 59 }
set_option maxHeartbeats 4000000 in
set_option maxRecDepth 100000 in
theorem c_X3_take_s (l : Launch) (D : va_G) (cI cL : ClassId) (sz : Nat) (m0 : Nat) (m1 : Nat) (m2 : Nat) (m3 : Nat) (m4 : Nat) (m5 : Nat) (m6 : Nat) (m7 : Nat) (m8 : Nat) (m9 : Nat) (m10 : Nat) (rd : Int32) (md : Int32) (cd : Int32) (ln : Int32) (pp : Int64) (qq : Int64) (cu : Nat → Int64) (S : xm_S) (b : Int32) (hkd : ¬ md = 3) (hk : S.2.2.2.2 < 128) : xk_V l yX3_take wsX3_take rm_X3_take_s xk_0 D classes [(cI, .int), (cL, .long)] [.ref m0, .int b] [(m0, .inr (3, [.int rd, .int md, .int cd, .int ln, .ref m1, .long pp, .long qq, .ref m2, .int (nI S.2.2.2.2), .ref m3, .ref m4, .ref m5, .ref m6, .ref m7, .ref m8, .ref m9, .ref m10])), (m2, .inl (cI, 128, .inl S.2.2.2.1)), (m3, .inl (cL, 8, .inr (.inl S.1))), (m4, .inl (cL, 80, .inr (.inl cu))), (m6, .inl (cL, 80, .inr (.inl S.2.1))), (m7, .inl (cL, 8, .inr (.inl S.2.2.1)))] [(m0, .inr (3, [.int rd, .int md, .int cd, .int ln, .ref m1, .long pp, .long qq, .ref m2, .int (nI ((mo_take cu S b).2.2.2.2)), .ref m3, .ref m4, .ref m5, .ref m6, .ref m7, .ref m8, .ref m9, .ref m10])), (m2, .inl (cI, 128, .inl ((mo_take cu S b).2.2.2.1))), (m3, .inl (cL, 8, .inr (.inl ((mo_take cu S b).1)))), (m4, .inl (cL, 80, .inr (.inl cu))), (m6, .inl (cL, 80, .inr (.inl ((mo_take cu S b).2.1)))), (m7, .inl (cL, 8, .inr (.inl ((mo_take cu S b).2.2.1))))] sz := by
  refine xk_entV (cc := cX3_take) (maxL := 2) (by decide) rfl (Nat.le_of_ble_eq_true rfl) ?_
  intro p e s m args below meth co Q A ls hx hb hml hts hown hA hK hP hD hS hX ret hl
  have hl : lv_has ls 2 [(0, .ref m0), (1, .int b)] := hl
  have hi_3 : ∀ w ∈ u_ws RX3 TX3 17, w ∈ wsX3_take := by decide +kernel
  have fl_13 := hts (.fieldLink RX3 13 "WideHashModel" "rest" "[I") (by decide +kernel)
  have fl_92 := hts (.fieldLink RX3 92 "WideHashModel" "held" "I") (by decide +kernel)
  have fl_82 := hts (.fieldLink RX3 82 "WideHashModel" "mode" "I") (by decide +kernel)
  refine lv_aload_n hx hb dX3_take_0 rfl (lv_at hl 0 rfl) ?_
  refine va_get (D := D) (ci := 3) (v := .ref m2) (C := RX3) (T := TX3) (N := 17) hx hb hts hi_3 hown hK hP 0 rfl rfl 7 (by decide) fl_13 (fun _ h9 => h9) rfl dX3_take_1 ?_
  refine lv_aload_n hx hb dX3_take_4 rfl (lv_at hl 0 rfl) ?_
  refine va_get (D := D) (ci := 3) (v := .int (nI S.2.2.2.2)) (C := RX3) (T := TX3) (N := 17) hx hb hts hi_3 hown hK hP 0 rfl rfl 8 (by decide) fl_92 (fun _ h9 => h9) rfl dX3_take_5 ?_
  refine lv_iload_n hx hb dX3_take_8 rfl (lv_at hl 1 rfl) ?_
  refine xk_iast hx hb hK hP hD hS 1 0 rfl rfl S.2.2.2.2 rfl (by omega) (by decide) dX3_take_9 (fun H locs hP hD hS => ?_)
  have hP : va_P D classes [(m0, .inr (3, [.int rd, .int md, .int cd, .int ln, .ref m1, .long pp, .long qq, .ref m2, .int (nI S.2.2.2.2), .ref m3, .ref m4, .ref m5, .ref m6, .ref m7, .ref m8, .ref m9, .ref m10])), (m2, .inl (cI, 128, .inl (upd S.2.2.2.1 S.2.2.2.2 b))), (m3, .inl (cL, 8, .inr (.inl S.1))), (m4, .inl (cL, 80, .inr (.inl cu))), (m6, .inl (cL, 80, .inr (.inl S.2.1))), (m7, .inl (cL, 8, .inr (.inl S.2.2.1)))] H := hP
  have hD : va_D A [(m0, .inr (3, [.int rd, .int md, .int cd, .int ln, .ref m1, .long pp, .long qq, .ref m2, .int (nI S.2.2.2.2), .ref m3, .ref m4, .ref m5, .ref m6, .ref m7, .ref m8, .ref m9, .ref m10])), (m2, .inl (cI, 128, .inl (upd S.2.2.2.1 S.2.2.2.2 b))), (m3, .inl (cL, 8, .inr (.inl S.1))), (m4, .inl (cL, 80, .inr (.inl cu))), (m6, .inl (cL, 80, .inr (.inl S.2.1))), (m7, .inl (cL, 8, .inr (.inl S.2.2.1)))] := hD
  generalize eL1 : upd S.2.2.2.1 S.2.2.2.2 b = L1 at hP hD
  refine lv_aload_n hx hb dX3_take_10 rfl (lv_at hl 0 rfl) ?_
  refine lv_dup hx hb dX3_take_11 rfl ?_
  refine va_get (D := D) (ci := 3) (v := .int (nI S.2.2.2.2)) (C := RX3) (T := TX3) (N := 17) hx hb hts hi_3 hown hK hP 0 rfl rfl 8 (by decide) fl_92 (fun _ h9 => h9) rfl dX3_take_12 ?_
  refine lv_iconst (v := 1) hx hb dX3_take_15 (by decide) ?_
  refine xk_iaddN hx hb S.2.2.2.2 1 (S.2.2.2.2 + 1) rfl rfl (by omega) dX3_take_16 ?_
  refine va_put (D := D) (ci := 3) (v := .int (nI (S.2.2.2.2 + 1))) (ty := .int) (C := RX3) (T := TX3) (N := 17) hx hb hts hi_3 tyX3 tyX3_ok nmX3 hown hK hP hD hS 0 rfl rfl 8 (by decide) fl_92 (fun _ h9 => h9) rfl (by decide +kernel) rfl rfl (Nat.le_of_ble_eq_true rfl) dX3_take_17 (fun H locs hP hD hS => ?_)
  have hP : va_P D classes [(m0, .inr (3, [.int rd, .int md, .int cd, .int ln, .ref m1, .long pp, .long qq, .ref m2, .int (nI (S.2.2.2.2 + 1)), .ref m3, .ref m4, .ref m5, .ref m6, .ref m7, .ref m8, .ref m9, .ref m10])), (m2, .inl (cI, 128, .inl L1)), (m3, .inl (cL, 8, .inr (.inl S.1))), (m4, .inl (cL, 80, .inr (.inl cu))), (m6, .inl (cL, 80, .inr (.inl S.2.1))), (m7, .inl (cL, 8, .inr (.inl S.2.2.1)))] H := hP
  have hD : va_D A [(m0, .inr (3, [.int rd, .int md, .int cd, .int ln, .ref m1, .long pp, .long qq, .ref m2, .int (nI (S.2.2.2.2 + 1)), .ref m3, .ref m4, .ref m5, .ref m6, .ref m7, .ref m8, .ref m9, .ref m10])), (m2, .inl (cI, 128, .inl L1)), (m3, .inl (cL, 8, .inr (.inl S.1))), (m4, .inl (cL, 80, .inr (.inl cu))), (m6, .inl (cL, 80, .inr (.inl S.2.1))), (m7, .inl (cL, 8, .inr (.inl S.2.2.1)))] := hD
  refine lv_aload_n hx hb dX3_take_20 rfl (lv_at hl 0 rfl) ?_
  refine va_get (D := D) (ci := 3) (v := .int md) (C := RX3) (T := TX3) (N := 17) hx hb hts hi_3 hown hK hP 0 rfl rfl 1 (by decide) fl_82 (fun _ h9 => h9) rfl dX3_take_21 ?_
  refine lv_iconst (v := 3) hx hb dX3_take_24 (by decide) ?_
  refine lv_icmp_ne (tgt := 49) hx hb dX3_take_25 (by decide) (fun c => ?_) (fun c => ?_)
  · refine lv_aload_n hx hb dX3_take_49 rfl (lv_at hl 0 rfl) ?_
    refine va_get (D := D) (ci := 3) (v := .int (nI (S.2.2.2.2 + 1))) (C := RX3) (T := TX3) (N := 17) hx hb hts hi_3 hown hK hP 0 rfl rfl 8 (by decide) fl_92 (fun _ h9 => h9) rfl dX3_take_50 ?_
    refine lv_sipush (v := 128) hx hb dX3_take_53 (by decide) ?_
    refine lv_icmp_ne (tgt := 68) hx hb dX3_take_56 (by decide) (fun c1 => ?_) (fun c1 => ?_)
    · have c2 : ¬ (S.2.2.2.2 + 1 = 128) := fun h => c1 (by rw [h]; rfl)
      subst eL1
      rw [show mo_take cu S b = _ from if_neg c2] at ret
      exact ret _ _ _ _ hP hD hS dX3_take_68
    · have c2 : S.2.2.2.2 + 1 = 128 := (nI_eq (by omega) (by omega)).mp c1
      refine lv_aload_n hx hb dX3_take_59 rfl (lv_at hl 0 rfl) ?_
      refine xk_goV (wr := []) (w2 := [(m0, .inr (3, [.int rd, .int md, .int cd, .int ln, .ref m1, .long pp, .long qq, .ref m2, .int (nI (S.2.2.2.2 + 1)), .ref m3, .ref m4, .ref m5, .ref m6, .ref m7, .ref m8, .ref m9, .ref m10])), (m2, .inl (cI, 128, .inl L1)), (m3, .inl (cL, 8, .inr (.inl (mo_bS cu S.1 S.2.1 S.2.2.1 L1)))), (m4, .inl (cL, 80, .inr (.inl cu))), (m6, .inl (cL, 80, .inr (.inl (mo_bW S.2.1 L1)))), (m7, .inl (cL, 8, .inr (.inl (mo_bR cu S.1 S.2.1 S.2.2.1 L1))))]) (va_runV (As := []) (rest := []) ⟨hx, hb, hml, hown, hts⟩ (c_X3_shaBlock l D cI cL H.size m0 m1 m2 m3 m4 m5 m6 m7 m8 m9 m10 rd md cd ln pp qq (nI (S.2.2.2.2 + 1)) L1 S.1 cu S.2.1 S.2.2.1) (cwV 0 hts gX3_take_X3_shaBlock rfl rfl rfl (by decide +kernel) ⟨Nat.le_of_ble_eq_true rfl, Nat.le_of_ble_eq_true rfl⟩) ⟨xk_blind xk_0_ok, va_recv hK hP (ci := 3) (q0 := 0) rfl rfl, xk_at xk_0_ok trivial hP hD hK hS hA [0, 1, 2, 3, 4, 5] rfl (by decide) rfl⟩ rfl rfl hl.1 rfl (lv_room (Nat.le_of_ble_eq_true rfl)) dX3_take_60 ⟨Nat.le_of_ble_eq_true rfl, Nat.le_of_ble_eq_true rfl⟩) hP hD hS hA [0, 1, 2, 3, 4, 5] [] [0, 1, 2, 3, 4, 5] rfl rfl (by decide) (by decide) rfl (by decide) rfl (fun H locs hP hD hS => ?_)
      generalize eL2 : mo_bS cu S.1 S.2.1 S.2.2.1 L1 = L2 at hP hD
      generalize eL3 : mo_bW S.2.1 L1 = L3 at hP hD
      generalize eL4 : mo_bR cu S.1 S.2.1 S.2.2.1 L1 = L4 at hP hD
      refine lv_aload_n hx hb dX3_take_63 rfl (lv_at hl 0 rfl) ?_
      refine lv_iconst (v := 0) hx hb dX3_take_64 (by decide) ?_
      refine va_put (D := D) (ci := 3) (v := .int 0) (ty := .int) (C := RX3) (T := TX3) (N := 17) hx hb hts hi_3 tyX3 tyX3_ok nmX3 hown hK hP hD hS 0 rfl rfl 8 (by decide) fl_92 (fun _ h9 => h9) rfl (by decide +kernel) rfl rfl (Nat.le_of_ble_eq_true rfl) dX3_take_65 (fun H locs hP hD hS => ?_)
      have hP : va_P D classes [(m0, .inr (3, [.int rd, .int md, .int cd, .int ln, .ref m1, .long pp, .long qq, .ref m2, .int 0, .ref m3, .ref m4, .ref m5, .ref m6, .ref m7, .ref m8, .ref m9, .ref m10])), (m2, .inl (cI, 128, .inl L1)), (m3, .inl (cL, 8, .inr (.inl L2))), (m4, .inl (cL, 80, .inr (.inl cu))), (m6, .inl (cL, 80, .inr (.inl L3))), (m7, .inl (cL, 8, .inr (.inl L4)))] H := hP
      have hD : va_D A [(m0, .inr (3, [.int rd, .int md, .int cd, .int ln, .ref m1, .long pp, .long qq, .ref m2, .int 0, .ref m3, .ref m4, .ref m5, .ref m6, .ref m7, .ref m8, .ref m9, .ref m10])), (m2, .inl (cI, 128, .inl L1)), (m3, .inl (cL, 8, .inr (.inl L2))), (m4, .inl (cL, 80, .inr (.inl cu))), (m6, .inl (cL, 80, .inr (.inl L3))), (m7, .inl (cL, 8, .inr (.inl L4)))] := hD
      subst eL1
      subst eL2
      subst eL3
      subst eL4
      rw [show mo_take cu S b = _ from if_pos c2] at ret
      exact ret _ _ _ _ hP hD hS dX3_take_68
  · exact absurd c hkd
