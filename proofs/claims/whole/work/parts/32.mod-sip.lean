abbrev rm_X3_sipRounds : Room := { frames := 2, cells := 0, slots := 0, locals := 45 }
set_option maxHeartbeats 4000000 in
set_option maxRecDepth 100000 in
theorem c_X3_sipRounds (l : Launch) (D : va_G) (cI cL : ClassId) (sz : Nat) (m0 : Nat) (m1 : Nat) (m2 : Nat) (m3 : Nat) (m4 : Nat) (m5 : Nat) (m6 : Nat) (m7 : Nat) (m8 : Nat) (m9 : Nat) (m10 : Nat) (rd : Int32) (md : Int32) (cd : Int32) (ln : Int32) (pp : Int64) (qq : Int64) (hd : Int32) (st : Nat → Int64) (n : Nat) (hn : n < 100) : xk_V l yX3_sipRounds wsX3_sipRounds rm_X3_sipRounds xk_0 D classes [(cI, .int), (cL, .long)] [.ref m0, .int (nI n)] [(m0, .inr (3, [.int rd, .int md, .int cd, .int ln, .ref m1, .long pp, .long qq, .ref m2, .int hd, .ref m3, .ref m4, .ref m5, .ref m6, .ref m7, .ref m8, .ref m9, .ref m10])), (m3, .inl (cL, 8, .inr (.inl st)))] [(m0, .inr (3, [.int rd, .int md, .int cd, .int ln, .ref m1, .long pp, .long qq, .ref m2, .int hd, .ref m3, .ref m4, .ref m5, .ref m6, .ref m7, .ref m8, .ref m9, .ref m10])), (m3, .inl (cL, 8, .inr (.inl (mo_srs st n))))] sz := by
  refine xk_entV (cc := cX3_sipRounds) (maxL := 3) (by decide) rfl (Nat.le_of_ble_eq_true rfl) ?_
  intro p e s m args below meth co Q A ls hx hb hml hts hown hA hK hP hD hS hX ret hl
  have hl : lv_has ls 3 [(0, .ref m0), (1, .int (nI n))] := hl
  have hi_3 : ∀ w ∈ u_ws RX3 TX3 17, w ∈ wsX3_sipRounds := by decide +kernel
  have fl_16 := hts (.fieldLink RX3 16 "WideHashModel" "state" "[J") (by decide +kernel)
  refine lv_iconst (v := 0) hx hb dX3_sipRounds_0 (by decide) ?_
  refine lv_istore_n (lv' := [(2, .int 0), (0, .ref m0), (1, .int (nI n))]) hx hb dX3_sipRounds_1 rfl hl (by decide) rfl (fun ls hl => ?_)
  have loopA : ∀ (d : Nat) (k : Nat), (hk : k + d = n) → ∀ (H : Heap) (locs : List Loc) (ls : Array Slot), va_P D classes [(m0, .inr (3, [.int rd, .int md, .int cd, .int ln, .ref m1, .long pp, .long qq, .ref m2, .int hd, .ref m3, .ref m4, .ref m5, .ref m6, .ref m7, .ref m8, .ref m9, .ref m10])), (m3, .inl (cL, 8, .inr (.inl (mo_srs st k))))] H → va_D A [(m0, .inr (3, [.int rd, .int md, .int cd, .int ln, .ref m1, .long pp, .long qq, .ref m2, .int hd, .ref m3, .ref m4, .ref m5, .ref m6, .ref m7, .ref m8, .ref m9, .ref m10])), (m3, .inl (cL, 8, .inr (.inl (mo_srs st k))))] → va_S A s.heap H locs → lv_has ls 3 [(0, .ref m0), (1, .int (nI n)), (2, .int (nI k))] → W p l e rm_X3_sipRounds s m args below meth co H locs 0 0 Q (F0 m 2 ls []) := by
    intro d
    induction d with
    | zero =>
      intro k hk H locs ls hP hD hS hl
      obtain rfl : n = k := by omega
      refine lv_iload_n hx hb dX3_sipRounds_2 rfl (lv_at hl 2 rfl) ?_
      refine lv_iload_n hx hb dX3_sipRounds_3 rfl (lv_at hl 1 rfl) ?_
      refine lv_icmp_ge (tgt := 203) hx hb dX3_sipRounds_4 (by decide) (fun c => ?_) (fun c => ?_)
      · exact ret _ _ _ _ hP hD hS dX3_sipRounds_203
      · exact absurd (nI_le (a := n) (b := n) (by omega) (by omega)) c
    | succ d ihloopA =>
      intro k hk H locs ls hP hD hS hl
      generalize eL1 : mo_srs st k = L1 at hP hD
      refine lv_iload_n hx hb dX3_sipRounds_2 rfl (lv_at hl 2 rfl) ?_
      refine lv_iload_n hx hb dX3_sipRounds_3 rfl (lv_at hl 1 rfl) ?_
      refine lv_icmp_ge (tgt := 203) hx hb dX3_sipRounds_4 (by decide) (fun c => ?_) (fun c => ?_)
      · exact absurd c (nI_ge (a := k) (b := n) (by omega) (by omega))
      · refine lv_aload_n hx hb dX3_sipRounds_7 rfl (lv_at hl 0 rfl) ?_
        refine va_get (D := D) (ci := 3) (v := .ref m3) (C := RX3) (T := TX3) (N := 17) hx hb hts hi_3 hown hK hP 0 rfl rfl 9 (by decide) fl_16 (fun _ h9 => h9) rfl dX3_sipRounds_8 ?_
        refine lv_iconst (v := 0) hx hb dX3_sipRounds_11 (by decide) ?_
        refine lv_dup2_11 hx hb dX3_sipRounds_12 rfl rfl ?_
        refine xk_lald hx hb hK hP 1 1 rfl rfl 0 rfl (by omega) (by decide) dX3_sipRounds_13 ?_
        refine lv_aload_n hx hb dX3_sipRounds_14 rfl (lv_at hl 0 rfl) ?_
        refine va_get (D := D) (ci := 3) (v := .ref m3) (C := RX3) (T := TX3) (N := 17) hx hb hts hi_3 hown hK hP 0 rfl rfl 9 (by decide) fl_16 (fun _ h9 => h9) rfl dX3_sipRounds_15 ?_
        refine lv_iconst (v := 1) hx hb dX3_sipRounds_18 (by decide) ?_
        refine xk_lald hx hb hK hP 1 1 rfl rfl 1 rfl (by omega) (by decide) dX3_sipRounds_19 ?_
        refine lv_ladd hx hb dX3_sipRounds_20 ?_
        refine xk_last hx hb hK hP hD hS 1 1 rfl rfl 0 rfl (by omega) (by decide) dX3_sipRounds_21 (fun H locs hP hD hS => ?_)
        have hP : va_P D classes [(m0, .inr (3, [.int rd, .int md, .int cd, .int ln, .ref m1, .long pp, .long qq, .ref m2, .int hd, .ref m3, .ref m4, .ref m5, .ref m6, .ref m7, .ref m8, .ref m9, .ref m10])), (m3, .inl (cL, 8, .inr (.inl (vp_updL L1 0 ((L1 0) + (L1 1))))))] H := hP
        have hD : va_D A [(m0, .inr (3, [.int rd, .int md, .int cd, .int ln, .ref m1, .long pp, .long qq, .ref m2, .int hd, .ref m3, .ref m4, .ref m5, .ref m6, .ref m7, .ref m8, .ref m9, .ref m10])), (m3, .inl (cL, 8, .inr (.inl (vp_updL L1 0 ((L1 0) + (L1 1))))))] := hD
        generalize eL2 : vp_updL L1 0 ((L1 0) + (L1 1)) = L2 at hP hD
        refine lv_aload_n hx hb dX3_sipRounds_22 rfl (lv_at hl 0 rfl) ?_
        refine va_get (D := D) (ci := 3) (v := .ref m3) (C := RX3) (T := TX3) (N := 17) hx hb hts hi_3 hown hK hP 0 rfl rfl 9 (by decide) fl_16 (fun _ h9 => h9) rfl dX3_sipRounds_23 ?_
        refine lv_iconst (v := 2) hx hb dX3_sipRounds_26 (by decide) ?_
        refine lv_dup2_11 hx hb dX3_sipRounds_27 rfl rfl ?_
        refine xk_lald hx hb hK hP 1 1 rfl rfl 2 rfl (by omega) (by decide) dX3_sipRounds_28 ?_
        refine lv_aload_n hx hb dX3_sipRounds_29 rfl (lv_at hl 0 rfl) ?_
        refine va_get (D := D) (ci := 3) (v := .ref m3) (C := RX3) (T := TX3) (N := 17) hx hb hts hi_3 hown hK hP 0 rfl rfl 9 (by decide) fl_16 (fun _ h9 => h9) rfl dX3_sipRounds_30 ?_
        refine lv_iconst (v := 3) hx hb dX3_sipRounds_33 (by decide) ?_
        refine xk_lald hx hb hK hP 1 1 rfl rfl 3 rfl (by omega) (by decide) dX3_sipRounds_34 ?_
        refine lv_ladd hx hb dX3_sipRounds_35 ?_
        refine xk_last hx hb hK hP hD hS 1 1 rfl rfl 2 rfl (by omega) (by decide) dX3_sipRounds_36 (fun H locs hP hD hS => ?_)
        have hP : va_P D classes [(m0, .inr (3, [.int rd, .int md, .int cd, .int ln, .ref m1, .long pp, .long qq, .ref m2, .int hd, .ref m3, .ref m4, .ref m5, .ref m6, .ref m7, .ref m8, .ref m9, .ref m10])), (m3, .inl (cL, 8, .inr (.inl (vp_updL L2 2 ((L2 2) + (L2 3))))))] H := hP
        have hD : va_D A [(m0, .inr (3, [.int rd, .int md, .int cd, .int ln, .ref m1, .long pp, .long qq, .ref m2, .int hd, .ref m3, .ref m4, .ref m5, .ref m6, .ref m7, .ref m8, .ref m9, .ref m10])), (m3, .inl (cL, 8, .inr (.inl (vp_updL L2 2 ((L2 2) + (L2 3))))))] := hD
        generalize eL3 : vp_updL L2 2 ((L2 2) + (L2 3)) = L3 at hP hD
        refine lv_aload_n hx hb dX3_sipRounds_37 rfl (lv_at hl 0 rfl) ?_
        refine va_get (D := D) (ci := 3) (v := .ref m3) (C := RX3) (T := TX3) (N := 17) hx hb hts hi_3 hown hK hP 0 rfl rfl 9 (by decide) fl_16 (fun _ h9 => h9) rfl dX3_sipRounds_38 ?_
        refine lv_iconst (v := 1) hx hb dX3_sipRounds_41 (by decide) ?_
        refine lv_aload_n hx hb dX3_sipRounds_42 rfl (lv_at hl 0 rfl) ?_
        refine va_get (D := D) (ci := 3) (v := .ref m3) (C := RX3) (T := TX3) (N := 17) hx hb hts hi_3 hown hK hP 0 rfl rfl 9 (by decide) fl_16 (fun _ h9 => h9) rfl dX3_sipRounds_43 ?_
        refine lv_iconst (v := 1) hx hb dX3_sipRounds_46 (by decide) ?_
        refine xk_lald hx hb hK hP 1 1 rfl rfl 1 rfl (by omega) (by decide) dX3_sipRounds_47 ?_
        refine lv_bipush (v := 13) hx hb dX3_sipRounds_48 (by decide) ?_
        refine xk_goPL (r := (mo_left (L3 1) 13)) (va_runS (As := [.long (L3 1), .int 13]) (rest := [.int 1, .ref m3]) ⟨hx, hb, hml, hown, hts⟩ (c_X3_left l D (L3 1) 13) (va_cwS 2 hts gX3_sipRounds_X3_left rfl rfl rfl (by decide +kernel) ⟨Nat.le_of_ble_eq_true rfl, Nat.le_of_ble_eq_true rfl⟩) preEq rfl rfl hl.1 rfl (lv_room (Nat.le_of_ble_eq_true rfl)) dX3_sipRounds_50 ⟨Nat.le_of_ble_eq_true rfl, Nat.le_of_ble_eq_true rfl⟩) hP hS (fun H locs hP hS => ?_)
        refine lv_aload_n hx hb dX3_sipRounds_53 rfl (lv_at hl 0 rfl) ?_
        refine va_get (D := D) (ci := 3) (v := .ref m3) (C := RX3) (T := TX3) (N := 17) hx hb hts hi_3 hown hK hP 0 rfl rfl 9 (by decide) fl_16 (fun _ h9 => h9) rfl dX3_sipRounds_54 ?_
        refine lv_iconst (v := 0) hx hb dX3_sipRounds_57 (by decide) ?_
        refine xk_lald hx hb hK hP 1 1 rfl rfl 0 rfl (by omega) (by decide) dX3_sipRounds_58 ?_
        refine lv_lxor hx hb dX3_sipRounds_59 ?_
        refine xk_last hx hb hK hP hD hS 1 1 rfl rfl 1 rfl (by omega) (by decide) dX3_sipRounds_60 (fun H locs hP hD hS => ?_)
        have hP : va_P D classes [(m0, .inr (3, [.int rd, .int md, .int cd, .int ln, .ref m1, .long pp, .long qq, .ref m2, .int hd, .ref m3, .ref m4, .ref m5, .ref m6, .ref m7, .ref m8, .ref m9, .ref m10])), (m3, .inl (cL, 8, .inr (.inl (vp_updL L3 1 ((mo_left (L3 1) 13) ^^^ (L3 0))))))] H := hP
        have hD : va_D A [(m0, .inr (3, [.int rd, .int md, .int cd, .int ln, .ref m1, .long pp, .long qq, .ref m2, .int hd, .ref m3, .ref m4, .ref m5, .ref m6, .ref m7, .ref m8, .ref m9, .ref m10])), (m3, .inl (cL, 8, .inr (.inl (vp_updL L3 1 ((mo_left (L3 1) 13) ^^^ (L3 0))))))] := hD
        generalize eL4 : vp_updL L3 1 ((mo_left (L3 1) 13) ^^^ (L3 0)) = L4 at hP hD
        refine lv_aload_n hx hb dX3_sipRounds_61 rfl (lv_at hl 0 rfl) ?_
        refine va_get (D := D) (ci := 3) (v := .ref m3) (C := RX3) (T := TX3) (N := 17) hx hb hts hi_3 hown hK hP 0 rfl rfl 9 (by decide) fl_16 (fun _ h9 => h9) rfl dX3_sipRounds_62 ?_
        refine lv_iconst (v := 3) hx hb dX3_sipRounds_65 (by decide) ?_
        refine lv_aload_n hx hb dX3_sipRounds_66 rfl (lv_at hl 0 rfl) ?_
        refine va_get (D := D) (ci := 3) (v := .ref m3) (C := RX3) (T := TX3) (N := 17) hx hb hts hi_3 hown hK hP 0 rfl rfl 9 (by decide) fl_16 (fun _ h9 => h9) rfl dX3_sipRounds_67 ?_
        refine lv_iconst (v := 3) hx hb dX3_sipRounds_70 (by decide) ?_
        refine xk_lald hx hb hK hP 1 1 rfl rfl 3 rfl (by omega) (by decide) dX3_sipRounds_71 ?_
        refine lv_bipush (v := 16) hx hb dX3_sipRounds_72 (by decide) ?_
        refine xk_goPL (r := (mo_left (L4 3) 16)) (va_runS (As := [.long (L4 3), .int 16]) (rest := [.int 3, .ref m3]) ⟨hx, hb, hml, hown, hts⟩ (c_X3_left l D (L4 3) 16) (va_cwS 2 hts gX3_sipRounds_X3_left rfl rfl rfl (by decide +kernel) ⟨Nat.le_of_ble_eq_true rfl, Nat.le_of_ble_eq_true rfl⟩) preEq rfl rfl hl.1 rfl (lv_room (Nat.le_of_ble_eq_true rfl)) dX3_sipRounds_74 ⟨Nat.le_of_ble_eq_true rfl, Nat.le_of_ble_eq_true rfl⟩) hP hS (fun H locs hP hS => ?_)
        refine lv_aload_n hx hb dX3_sipRounds_77 rfl (lv_at hl 0 rfl) ?_
        refine va_get (D := D) (ci := 3) (v := .ref m3) (C := RX3) (T := TX3) (N := 17) hx hb hts hi_3 hown hK hP 0 rfl rfl 9 (by decide) fl_16 (fun _ h9 => h9) rfl dX3_sipRounds_78 ?_
        refine lv_iconst (v := 2) hx hb dX3_sipRounds_81 (by decide) ?_
        refine xk_lald hx hb hK hP 1 1 rfl rfl 2 rfl (by omega) (by decide) dX3_sipRounds_82 ?_
        refine lv_lxor hx hb dX3_sipRounds_83 ?_
        refine xk_last hx hb hK hP hD hS 1 1 rfl rfl 3 rfl (by omega) (by decide) dX3_sipRounds_84 (fun H locs hP hD hS => ?_)
        have hP : va_P D classes [(m0, .inr (3, [.int rd, .int md, .int cd, .int ln, .ref m1, .long pp, .long qq, .ref m2, .int hd, .ref m3, .ref m4, .ref m5, .ref m6, .ref m7, .ref m8, .ref m9, .ref m10])), (m3, .inl (cL, 8, .inr (.inl (vp_updL L4 3 ((mo_left (L4 3) 16) ^^^ (L4 2))))))] H := hP
        have hD : va_D A [(m0, .inr (3, [.int rd, .int md, .int cd, .int ln, .ref m1, .long pp, .long qq, .ref m2, .int hd, .ref m3, .ref m4, .ref m5, .ref m6, .ref m7, .ref m8, .ref m9, .ref m10])), (m3, .inl (cL, 8, .inr (.inl (vp_updL L4 3 ((mo_left (L4 3) 16) ^^^ (L4 2))))))] := hD
        generalize eL5 : vp_updL L4 3 ((mo_left (L4 3) 16) ^^^ (L4 2)) = L5 at hP hD
        refine lv_aload_n hx hb dX3_sipRounds_85 rfl (lv_at hl 0 rfl) ?_
        refine va_get (D := D) (ci := 3) (v := .ref m3) (C := RX3) (T := TX3) (N := 17) hx hb hts hi_3 hown hK hP 0 rfl rfl 9 (by decide) fl_16 (fun _ h9 => h9) rfl dX3_sipRounds_86 ?_
        refine lv_iconst (v := 0) hx hb dX3_sipRounds_89 (by decide) ?_
        refine lv_aload_n hx hb dX3_sipRounds_90 rfl (lv_at hl 0 rfl) ?_
        refine va_get (D := D) (ci := 3) (v := .ref m3) (C := RX3) (T := TX3) (N := 17) hx hb hts hi_3 hown hK hP 0 rfl rfl 9 (by decide) fl_16 (fun _ h9 => h9) rfl dX3_sipRounds_91 ?_
        refine lv_iconst (v := 0) hx hb dX3_sipRounds_94 (by decide) ?_
        refine xk_lald hx hb hK hP 1 1 rfl rfl 0 rfl (by omega) (by decide) dX3_sipRounds_95 ?_
        refine lv_bipush (v := 32) hx hb dX3_sipRounds_96 (by decide) ?_
        refine xk_goPL (r := (mo_left (L5 0) 32)) (va_runS (As := [.long (L5 0), .int 32]) (rest := [.int 0, .ref m3]) ⟨hx, hb, hml, hown, hts⟩ (c_X3_left l D (L5 0) 32) (va_cwS 2 hts gX3_sipRounds_X3_left rfl rfl rfl (by decide +kernel) ⟨Nat.le_of_ble_eq_true rfl, Nat.le_of_ble_eq_true rfl⟩) preEq rfl rfl hl.1 rfl (lv_room (Nat.le_of_ble_eq_true rfl)) dX3_sipRounds_98 ⟨Nat.le_of_ble_eq_true rfl, Nat.le_of_ble_eq_true rfl⟩) hP hS (fun H locs hP hS => ?_)
        refine xk_last hx hb hK hP hD hS 1 1 rfl rfl 0 rfl (by omega) (by decide) dX3_sipRounds_101 (fun H locs hP hD hS => ?_)
        have hP : va_P D classes [(m0, .inr (3, [.int rd, .int md, .int cd, .int ln, .ref m1, .long pp, .long qq, .ref m2, .int hd, .ref m3, .ref m4, .ref m5, .ref m6, .ref m7, .ref m8, .ref m9, .ref m10])), (m3, .inl (cL, 8, .inr (.inl (vp_updL L5 0 (mo_left (L5 0) 32)))))] H := hP
        have hD : va_D A [(m0, .inr (3, [.int rd, .int md, .int cd, .int ln, .ref m1, .long pp, .long qq, .ref m2, .int hd, .ref m3, .ref m4, .ref m5, .ref m6, .ref m7, .ref m8, .ref m9, .ref m10])), (m3, .inl (cL, 8, .inr (.inl (vp_updL L5 0 (mo_left (L5 0) 32)))))] := hD
        generalize eL6 : vp_updL L5 0 (mo_left (L5 0) 32) = L6 at hP hD
        refine lv_aload_n hx hb dX3_sipRounds_102 rfl (lv_at hl 0 rfl) ?_
        refine va_get (D := D) (ci := 3) (v := .ref m3) (C := RX3) (T := TX3) (N := 17) hx hb hts hi_3 hown hK hP 0 rfl rfl 9 (by decide) fl_16 (fun _ h9 => h9) rfl dX3_sipRounds_103 ?_
        refine lv_iconst (v := 2) hx hb dX3_sipRounds_106 (by decide) ?_
        refine lv_dup2_11 hx hb dX3_sipRounds_107 rfl rfl ?_
        refine xk_lald hx hb hK hP 1 1 rfl rfl 2 rfl (by omega) (by decide) dX3_sipRounds_108 ?_
        refine lv_aload_n hx hb dX3_sipRounds_109 rfl (lv_at hl 0 rfl) ?_
        refine va_get (D := D) (ci := 3) (v := .ref m3) (C := RX3) (T := TX3) (N := 17) hx hb hts hi_3 hown hK hP 0 rfl rfl 9 (by decide) fl_16 (fun _ h9 => h9) rfl dX3_sipRounds_110 ?_
        refine lv_iconst (v := 1) hx hb dX3_sipRounds_113 (by decide) ?_
        refine xk_lald hx hb hK hP 1 1 rfl rfl 1 rfl (by omega) (by decide) dX3_sipRounds_114 ?_
        refine lv_ladd hx hb dX3_sipRounds_115 ?_
        refine xk_last hx hb hK hP hD hS 1 1 rfl rfl 2 rfl (by omega) (by decide) dX3_sipRounds_116 (fun H locs hP hD hS => ?_)
        have hP : va_P D classes [(m0, .inr (3, [.int rd, .int md, .int cd, .int ln, .ref m1, .long pp, .long qq, .ref m2, .int hd, .ref m3, .ref m4, .ref m5, .ref m6, .ref m7, .ref m8, .ref m9, .ref m10])), (m3, .inl (cL, 8, .inr (.inl (vp_updL L6 2 ((L6 2) + (L6 1))))))] H := hP
        have hD : va_D A [(m0, .inr (3, [.int rd, .int md, .int cd, .int ln, .ref m1, .long pp, .long qq, .ref m2, .int hd, .ref m3, .ref m4, .ref m5, .ref m6, .ref m7, .ref m8, .ref m9, .ref m10])), (m3, .inl (cL, 8, .inr (.inl (vp_updL L6 2 ((L6 2) + (L6 1))))))] := hD
        generalize eL7 : vp_updL L6 2 ((L6 2) + (L6 1)) = L7 at hP hD
        refine lv_aload_n hx hb dX3_sipRounds_117 rfl (lv_at hl 0 rfl) ?_
        refine va_get (D := D) (ci := 3) (v := .ref m3) (C := RX3) (T := TX3) (N := 17) hx hb hts hi_3 hown hK hP 0 rfl rfl 9 (by decide) fl_16 (fun _ h9 => h9) rfl dX3_sipRounds_118 ?_
        refine lv_iconst (v := 0) hx hb dX3_sipRounds_121 (by decide) ?_
        refine lv_dup2_11 hx hb dX3_sipRounds_122 rfl rfl ?_
        refine xk_lald hx hb hK hP 1 1 rfl rfl 0 rfl (by omega) (by decide) dX3_sipRounds_123 ?_
        refine lv_aload_n hx hb dX3_sipRounds_124 rfl (lv_at hl 0 rfl) ?_
        refine va_get (D := D) (ci := 3) (v := .ref m3) (C := RX3) (T := TX3) (N := 17) hx hb hts hi_3 hown hK hP 0 rfl rfl 9 (by decide) fl_16 (fun _ h9 => h9) rfl dX3_sipRounds_125 ?_
        refine lv_iconst (v := 3) hx hb dX3_sipRounds_128 (by decide) ?_
        refine xk_lald hx hb hK hP 1 1 rfl rfl 3 rfl (by omega) (by decide) dX3_sipRounds_129 ?_
        refine lv_ladd hx hb dX3_sipRounds_130 ?_
        refine xk_last hx hb hK hP hD hS 1 1 rfl rfl 0 rfl (by omega) (by decide) dX3_sipRounds_131 (fun H locs hP hD hS => ?_)
        have hP : va_P D classes [(m0, .inr (3, [.int rd, .int md, .int cd, .int ln, .ref m1, .long pp, .long qq, .ref m2, .int hd, .ref m3, .ref m4, .ref m5, .ref m6, .ref m7, .ref m8, .ref m9, .ref m10])), (m3, .inl (cL, 8, .inr (.inl (vp_updL L7 0 ((L7 0) + (L7 3))))))] H := hP
        have hD : va_D A [(m0, .inr (3, [.int rd, .int md, .int cd, .int ln, .ref m1, .long pp, .long qq, .ref m2, .int hd, .ref m3, .ref m4, .ref m5, .ref m6, .ref m7, .ref m8, .ref m9, .ref m10])), (m3, .inl (cL, 8, .inr (.inl (vp_updL L7 0 ((L7 0) + (L7 3))))))] := hD
        generalize eL8 : vp_updL L7 0 ((L7 0) + (L7 3)) = L8 at hP hD
        refine lv_aload_n hx hb dX3_sipRounds_132 rfl (lv_at hl 0 rfl) ?_
        refine va_get (D := D) (ci := 3) (v := .ref m3) (C := RX3) (T := TX3) (N := 17) hx hb hts hi_3 hown hK hP 0 rfl rfl 9 (by decide) fl_16 (fun _ h9 => h9) rfl dX3_sipRounds_133 ?_
        refine lv_iconst (v := 1) hx hb dX3_sipRounds_136 (by decide) ?_
        refine lv_aload_n hx hb dX3_sipRounds_137 rfl (lv_at hl 0 rfl) ?_
        refine va_get (D := D) (ci := 3) (v := .ref m3) (C := RX3) (T := TX3) (N := 17) hx hb hts hi_3 hown hK hP 0 rfl rfl 9 (by decide) fl_16 (fun _ h9 => h9) rfl dX3_sipRounds_138 ?_
        refine lv_iconst (v := 1) hx hb dX3_sipRounds_141 (by decide) ?_
        refine xk_lald hx hb hK hP 1 1 rfl rfl 1 rfl (by omega) (by decide) dX3_sipRounds_142 ?_
        refine lv_bipush (v := 17) hx hb dX3_sipRounds_143 (by decide) ?_
        refine xk_goPL (r := (mo_left (L8 1) 17)) (va_runS (As := [.long (L8 1), .int 17]) (rest := [.int 1, .ref m3]) ⟨hx, hb, hml, hown, hts⟩ (c_X3_left l D (L8 1) 17) (va_cwS 2 hts gX3_sipRounds_X3_left rfl rfl rfl (by decide +kernel) ⟨Nat.le_of_ble_eq_true rfl, Nat.le_of_ble_eq_true rfl⟩) preEq rfl rfl hl.1 rfl (lv_room (Nat.le_of_ble_eq_true rfl)) dX3_sipRounds_145 ⟨Nat.le_of_ble_eq_true rfl, Nat.le_of_ble_eq_true rfl⟩) hP hS (fun H locs hP hS => ?_)
        refine lv_aload_n hx hb dX3_sipRounds_148 rfl (lv_at hl 0 rfl) ?_
        refine va_get (D := D) (ci := 3) (v := .ref m3) (C := RX3) (T := TX3) (N := 17) hx hb hts hi_3 hown hK hP 0 rfl rfl 9 (by decide) fl_16 (fun _ h9 => h9) rfl dX3_sipRounds_149 ?_
        refine lv_iconst (v := 2) hx hb dX3_sipRounds_152 (by decide) ?_
        refine xk_lald hx hb hK hP 1 1 rfl rfl 2 rfl (by omega) (by decide) dX3_sipRounds_153 ?_
        refine lv_lxor hx hb dX3_sipRounds_154 ?_
        refine xk_last hx hb hK hP hD hS 1 1 rfl rfl 1 rfl (by omega) (by decide) dX3_sipRounds_155 (fun H locs hP hD hS => ?_)
        have hP : va_P D classes [(m0, .inr (3, [.int rd, .int md, .int cd, .int ln, .ref m1, .long pp, .long qq, .ref m2, .int hd, .ref m3, .ref m4, .ref m5, .ref m6, .ref m7, .ref m8, .ref m9, .ref m10])), (m3, .inl (cL, 8, .inr (.inl (vp_updL L8 1 ((mo_left (L8 1) 17) ^^^ (L8 2))))))] H := hP
        have hD : va_D A [(m0, .inr (3, [.int rd, .int md, .int cd, .int ln, .ref m1, .long pp, .long qq, .ref m2, .int hd, .ref m3, .ref m4, .ref m5, .ref m6, .ref m7, .ref m8, .ref m9, .ref m10])), (m3, .inl (cL, 8, .inr (.inl (vp_updL L8 1 ((mo_left (L8 1) 17) ^^^ (L8 2))))))] := hD
        generalize eL9 : vp_updL L8 1 ((mo_left (L8 1) 17) ^^^ (L8 2)) = L9 at hP hD
        refine lv_aload_n hx hb dX3_sipRounds_156 rfl (lv_at hl 0 rfl) ?_
        refine va_get (D := D) (ci := 3) (v := .ref m3) (C := RX3) (T := TX3) (N := 17) hx hb hts hi_3 hown hK hP 0 rfl rfl 9 (by decide) fl_16 (fun _ h9 => h9) rfl dX3_sipRounds_157 ?_
        refine lv_iconst (v := 3) hx hb dX3_sipRounds_160 (by decide) ?_
        refine lv_aload_n hx hb dX3_sipRounds_161 rfl (lv_at hl 0 rfl) ?_
        refine va_get (D := D) (ci := 3) (v := .ref m3) (C := RX3) (T := TX3) (N := 17) hx hb hts hi_3 hown hK hP 0 rfl rfl 9 (by decide) fl_16 (fun _ h9 => h9) rfl dX3_sipRounds_162 ?_
        refine lv_iconst (v := 3) hx hb dX3_sipRounds_165 (by decide) ?_
        refine xk_lald hx hb hK hP 1 1 rfl rfl 3 rfl (by omega) (by decide) dX3_sipRounds_166 ?_
        refine lv_bipush (v := 21) hx hb dX3_sipRounds_167 (by decide) ?_
        refine xk_goPL (r := (mo_left (L9 3) 21)) (va_runS (As := [.long (L9 3), .int 21]) (rest := [.int 3, .ref m3]) ⟨hx, hb, hml, hown, hts⟩ (c_X3_left l D (L9 3) 21) (va_cwS 2 hts gX3_sipRounds_X3_left rfl rfl rfl (by decide +kernel) ⟨Nat.le_of_ble_eq_true rfl, Nat.le_of_ble_eq_true rfl⟩) preEq rfl rfl hl.1 rfl (lv_room (Nat.le_of_ble_eq_true rfl)) dX3_sipRounds_169 ⟨Nat.le_of_ble_eq_true rfl, Nat.le_of_ble_eq_true rfl⟩) hP hS (fun H locs hP hS => ?_)
        refine lv_aload_n hx hb dX3_sipRounds_172 rfl (lv_at hl 0 rfl) ?_
        refine va_get (D := D) (ci := 3) (v := .ref m3) (C := RX3) (T := TX3) (N := 17) hx hb hts hi_3 hown hK hP 0 rfl rfl 9 (by decide) fl_16 (fun _ h9 => h9) rfl dX3_sipRounds_173 ?_
        refine lv_iconst (v := 0) hx hb dX3_sipRounds_176 (by decide) ?_
        refine xk_lald hx hb hK hP 1 1 rfl rfl 0 rfl (by omega) (by decide) dX3_sipRounds_177 ?_
        refine lv_lxor hx hb dX3_sipRounds_178 ?_
        refine xk_last hx hb hK hP hD hS 1 1 rfl rfl 3 rfl (by omega) (by decide) dX3_sipRounds_179 (fun H locs hP hD hS => ?_)
        have hP : va_P D classes [(m0, .inr (3, [.int rd, .int md, .int cd, .int ln, .ref m1, .long pp, .long qq, .ref m2, .int hd, .ref m3, .ref m4, .ref m5, .ref m6, .ref m7, .ref m8, .ref m9, .ref m10])), (m3, .inl (cL, 8, .inr (.inl (vp_updL L9 3 ((mo_left (L9 3) 21) ^^^ (L9 0))))))] H := hP
        have hD : va_D A [(m0, .inr (3, [.int rd, .int md, .int cd, .int ln, .ref m1, .long pp, .long qq, .ref m2, .int hd, .ref m3, .ref m4, .ref m5, .ref m6, .ref m7, .ref m8, .ref m9, .ref m10])), (m3, .inl (cL, 8, .inr (.inl (vp_updL L9 3 ((mo_left (L9 3) 21) ^^^ (L9 0))))))] := hD
        generalize eL10 : vp_updL L9 3 ((mo_left (L9 3) 21) ^^^ (L9 0)) = L10 at hP hD
        refine lv_aload_n hx hb dX3_sipRounds_180 rfl (lv_at hl 0 rfl) ?_
        refine va_get (D := D) (ci := 3) (v := .ref m3) (C := RX3) (T := TX3) (N := 17) hx hb hts hi_3 hown hK hP 0 rfl rfl 9 (by decide) fl_16 (fun _ h9 => h9) rfl dX3_sipRounds_181 ?_
        refine lv_iconst (v := 2) hx hb dX3_sipRounds_184 (by decide) ?_
        refine lv_aload_n hx hb dX3_sipRounds_185 rfl (lv_at hl 0 rfl) ?_
        refine va_get (D := D) (ci := 3) (v := .ref m3) (C := RX3) (T := TX3) (N := 17) hx hb hts hi_3 hown hK hP 0 rfl rfl 9 (by decide) fl_16 (fun _ h9 => h9) rfl dX3_sipRounds_186 ?_
        refine lv_iconst (v := 2) hx hb dX3_sipRounds_189 (by decide) ?_
        refine xk_lald hx hb hK hP 1 1 rfl rfl 2 rfl (by omega) (by decide) dX3_sipRounds_190 ?_
        refine lv_bipush (v := 32) hx hb dX3_sipRounds_191 (by decide) ?_
        refine xk_goPL (r := (mo_left (L10 2) 32)) (va_runS (As := [.long (L10 2), .int 32]) (rest := [.int 2, .ref m3]) ⟨hx, hb, hml, hown, hts⟩ (c_X3_left l D (L10 2) 32) (va_cwS 2 hts gX3_sipRounds_X3_left rfl rfl rfl (by decide +kernel) ⟨Nat.le_of_ble_eq_true rfl, Nat.le_of_ble_eq_true rfl⟩) preEq rfl rfl hl.1 rfl (lv_room (Nat.le_of_ble_eq_true rfl)) dX3_sipRounds_193 ⟨Nat.le_of_ble_eq_true rfl, Nat.le_of_ble_eq_true rfl⟩) hP hS (fun H locs hP hS => ?_)
        refine xk_last hx hb hK hP hD hS 1 1 rfl rfl 2 rfl (by omega) (by decide) dX3_sipRounds_196 (fun H locs hP hD hS => ?_)
        have hP : va_P D classes [(m0, .inr (3, [.int rd, .int md, .int cd, .int ln, .ref m1, .long pp, .long qq, .ref m2, .int hd, .ref m3, .ref m4, .ref m5, .ref m6, .ref m7, .ref m8, .ref m9, .ref m10])), (m3, .inl (cL, 8, .inr (.inl (vp_updL L10 2 (mo_left (L10 2) 32)))))] H := hP
        have hD : va_D A [(m0, .inr (3, [.int rd, .int md, .int cd, .int ln, .ref m1, .long pp, .long qq, .ref m2, .int hd, .ref m3, .ref m4, .ref m5, .ref m6, .ref m7, .ref m8, .ref m9, .ref m10])), (m3, .inl (cL, 8, .inr (.inl (vp_updL L10 2 (mo_left (L10 2) 32)))))] := hD
        generalize eL11 : vp_updL L10 2 (mo_left (L10 2) 32) = L11 at hP hD
        refine lv_iinc (v := nI (k + 1)) (lv' := [(2, .int (nI (k + 1))), (0, .ref m0), (1, .int (nI n))]) hx hb dX3_sipRounds_197 hl (k := 2) rfl (xk_i1 (by omega)) (by decide) rfl (fun ls hl => ?_)
        refine lv_goto (tgt := 2) hx hb dX3_sipRounds_200 (by decide) ?_
        subst eL1
        subst eL2
        subst eL3
        subst eL4
        subst eL5
        subst eL6
        subst eL7
        subst eL8
        subst eL9
        subst eL10
        subst eL11
        exact ihloopA (k + 1) (by omega) _ _ _ hP hD hS (lv_sub hl [1, 2, 0] rfl)
  exact loopA n 0 (Nat.zero_add _) _ _ _ hP hD hS (lv_sub hl [1, 2, 0] rfl)
abbrev rm_X3_sipBlock : Room := { frames := 3, cells := 0, slots := 0, locals := 67 }
set_option maxHeartbeats 4000000 in
set_option maxRecDepth 100000 in
theorem c_X3_sipBlock (l : Launch) (D : va_G) (cI cL : ClassId) (sz : Nat) (m0 : Nat) (m1 : Nat) (m2 : Nat) (m3 : Nat) (m4 : Nat) (m5 : Nat) (m6 : Nat) (m7 : Nat) (m8 : Nat) (m9 : Nat) (m10 : Nat) (rd : Int32) (md : Int32) (cd : Int32) (ln : Int32) (pp : Int64) (qq : Int64) (hd : Int32) (rs : Nat → Int32) (st : Nat → Int64) : xk_V l yX3_sipBlock wsX3_sipBlock rm_X3_sipBlock xk_0 D classes [(cI, .int), (cL, .long)] [.ref m0] [(m0, .inr (3, [.int rd, .int md, .int cd, .int ln, .ref m1, .long pp, .long qq, .ref m2, .int hd, .ref m3, .ref m4, .ref m5, .ref m6, .ref m7, .ref m8, .ref m9, .ref m10])), (m2, .inl (cI, 128, .inl rs)), (m3, .inl (cL, 8, .inr (.inl st)))] [(m0, .inr (3, [.int rd, .int md, .int cd, .int ln, .ref m1, .long pp, .long qq, .ref m2, .int hd, .ref m3, .ref m4, .ref m5, .ref m6, .ref m7, .ref m8, .ref m9, .ref m10])), (m2, .inl (cI, 128, .inl rs)), (m3, .inl (cL, 8, .inr (.inl (mo_sb st rs))))] sz := by
  refine xk_entV (cc := cX3_sipBlock) (maxL := 4) (by decide) rfl (Nat.le_of_ble_eq_true rfl) ?_
  intro p e s m args below meth co Q A ls hx hb hml hts hown hA hK hP hD hS hX ret hl
  have hl : lv_has ls 4 [(0, .ref m0)] := hl
  have hi_3 : ∀ w ∈ u_ws RX3 TX3 17, w ∈ wsX3_sipBlock := by decide +kernel
  have fl_13 := hts (.fieldLink RX3 13 "WideHashModel" "rest" "[I") (by decide +kernel)
  have fl_16 := hts (.fieldLink RX3 16 "WideHashModel" "state" "[J") (by decide +kernel)
  refine lv_lconst (v := 0) hx hb dX3_sipBlock_0 rfl ?_
  refine lv_lstore_n (lv' := [(1, .long 0), (0, .ref m0)]) hx hb dX3_sipBlock_1 rfl hl (by decide) rfl (fun ls hl => ?_)
  refine lv_bipush (v := 7) hx hb dX3_sipBlock_2 (by decide) ?_
  refine lv_istore_n (lv' := [(3, .int 7), (1, .long 0), (0, .ref m0)]) hx hb dX3_sipBlock_4 rfl hl (by decide) rfl (fun ls hl => ?_)
  have loopA : ∀ (d : Nat) (j : Nat), (hj : j + d = 8) → ∀ (H : Heap) (locs : List Loc) (ls : Array Slot), va_P D classes [(m0, .inr (3, [.int rd, .int md, .int cd, .int ln, .ref m1, .long pp, .long qq, .ref m2, .int hd, .ref m3, .ref m4, .ref m5, .ref m6, .ref m7, .ref m8, .ref m9, .ref m10])), (m2, .inl (cI, 128, .inl rs)), (m3, .inl (cL, 8, .inr (.inl st)))] H → va_D A [(m0, .inr (3, [.int rd, .int md, .int cd, .int ln, .ref m1, .long pp, .long qq, .ref m2, .int hd, .ref m3, .ref m4, .ref m5, .ref m6, .ref m7, .ref m8, .ref m9, .ref m10])), (m2, .inl (cI, 128, .inl rs)), (m3, .inl (cL, 8, .inr (.inl st)))] → va_S A s.heap H locs → lv_has ls 4 [(0, .ref m0), (1, .long (mo_le rs j)), (3, .int (xk_dv d))] → W p l e rm_X3_sipBlock s m args below meth co H locs 0 0 Q (F0 m 5 ls []) := by
    intro d
    induction d with
    | zero =>
      intro j hj H locs ls hP hD hS hl
      obtain rfl : j = 8 := by omega
      refine lv_iload_n hx hb dX3_sipBlock_5 rfl (lv_at hl 2 rfl) ?_
      refine lv_if_lt (tgt := 28) hx hb dX3_sipBlock_6 (by decide) (fun c => ?_) (fun c => ?_)
      · refine lv_aload_n hx hb dX3_sipBlock_28 rfl (lv_at hl 0 rfl) ?_
        refine va_get (D := D) (ci := 3) (v := .ref m3) (C := RX3) (T := TX3) (N := 17) hx hb hts hi_3 hown hK hP 0 rfl rfl 9 (by decide) fl_16 (fun _ h9 => h9) rfl dX3_sipBlock_29 ?_
        refine lv_iconst (v := 3) hx hb dX3_sipBlock_32 (by decide) ?_
        refine lv_dup2_11 hx hb dX3_sipBlock_33 rfl rfl ?_
        refine xk_lald hx hb hK hP 2 1 rfl rfl 3 rfl (by omega) (by decide) dX3_sipBlock_34 ?_
        refine lv_lload_n hx hb dX3_sipBlock_35 rfl (lv_at hl 1 rfl) ?_
        refine lv_lxor hx hb dX3_sipBlock_36 ?_
        refine xk_last hx hb hK hP hD hS 2 1 rfl rfl 3 rfl (by omega) (by decide) dX3_sipBlock_37 (fun H locs hP hD hS => ?_)
        have hP : va_P D classes [(m0, .inr (3, [.int rd, .int md, .int cd, .int ln, .ref m1, .long pp, .long qq, .ref m2, .int hd, .ref m3, .ref m4, .ref m5, .ref m6, .ref m7, .ref m8, .ref m9, .ref m10])), (m2, .inl (cI, 128, .inl rs)), (m3, .inl (cL, 8, .inr (.inl (vp_updL st 3 ((st 3) ^^^ (mo_le rs 8))))))] H := hP
        have hD : va_D A [(m0, .inr (3, [.int rd, .int md, .int cd, .int ln, .ref m1, .long pp, .long qq, .ref m2, .int hd, .ref m3, .ref m4, .ref m5, .ref m6, .ref m7, .ref m8, .ref m9, .ref m10])), (m2, .inl (cI, 128, .inl rs)), (m3, .inl (cL, 8, .inr (.inl (vp_updL st 3 ((st 3) ^^^ (mo_le rs 8))))))] := hD
        generalize eL1 : vp_updL st 3 ((st 3) ^^^ (mo_le rs 8)) = L1 at hP hD
        refine lv_aload_n hx hb dX3_sipBlock_38 rfl (lv_at hl 0 rfl) ?_
        refine lv_iconst (v := 2) hx hb dX3_sipBlock_39 (by decide) ?_
        refine xk_goV (wr := [(m2, .inl (cI, 128, .inl rs))]) (w2 := [(m0, .inr (3, [.int rd, .int md, .int cd, .int ln, .ref m1, .long pp, .long qq, .ref m2, .int hd, .ref m3, .ref m4, .ref m5, .ref m6, .ref m7, .ref m8, .ref m9, .ref m10])), (m2, .inl (cI, 128, .inl rs)), (m3, .inl (cL, 8, .inr (.inl (mo_srs L1 2))))]) (va_runV (As := [.int 2]) (rest := []) ⟨hx, hb, hml, hown, hts⟩ (c_X3_sipRounds l D cI cL H.size m0 m1 m2 m3 m4 m5 m6 m7 m8 m9 m10 rd md cd ln pp qq hd L1 2 (by omega)) (cwV 1 hts gX3_sipBlock_X3_sipRounds rfl rfl rfl (by decide +kernel) ⟨Nat.le_of_ble_eq_true rfl, Nat.le_of_ble_eq_true rfl⟩) ⟨xk_blind xk_0_ok, va_recv hK hP (ci := 3) (q0 := 0) rfl rfl, xk_at xk_0_ok trivial hP hD hK hS hA [0, 2] rfl (by decide) rfl⟩ rfl rfl hl.1 rfl (lv_room (Nat.le_of_ble_eq_true rfl)) dX3_sipBlock_40 ⟨Nat.le_of_ble_eq_true rfl, Nat.le_of_ble_eq_true rfl⟩) hP hD hS hA [0, 2] [1] [1, 0, 2] rfl rfl (by decide) (by decide) rfl (by decide) rfl (fun H locs hP hD hS => ?_)
        generalize eL2 : mo_srs L1 2 = L2 at hP hD
        refine lv_aload_n hx hb dX3_sipBlock_43 rfl (lv_at hl 0 rfl) ?_
        refine va_get (D := D) (ci := 3) (v := .ref m3) (C := RX3) (T := TX3) (N := 17) hx hb hts hi_3 hown hK hP 0 rfl rfl 9 (by decide) fl_16 (fun _ h9 => h9) rfl dX3_sipBlock_44 ?_
        refine lv_iconst (v := 0) hx hb dX3_sipBlock_47 (by decide) ?_
        refine lv_dup2_11 hx hb dX3_sipBlock_48 rfl rfl ?_
        refine xk_lald hx hb hK hP 2 1 rfl rfl 0 rfl (by omega) (by decide) dX3_sipBlock_49 ?_
        refine lv_lload_n hx hb dX3_sipBlock_50 rfl (lv_at hl 1 rfl) ?_
        refine lv_lxor hx hb dX3_sipBlock_51 ?_
        refine xk_last hx hb hK hP hD hS 2 1 rfl rfl 0 rfl (by omega) (by decide) dX3_sipBlock_52 (fun H locs hP hD hS => ?_)
        have hP : va_P D classes [(m0, .inr (3, [.int rd, .int md, .int cd, .int ln, .ref m1, .long pp, .long qq, .ref m2, .int hd, .ref m3, .ref m4, .ref m5, .ref m6, .ref m7, .ref m8, .ref m9, .ref m10])), (m2, .inl (cI, 128, .inl rs)), (m3, .inl (cL, 8, .inr (.inl (vp_updL L2 0 ((L2 0) ^^^ (mo_le rs 8))))))] H := hP
        have hD : va_D A [(m0, .inr (3, [.int rd, .int md, .int cd, .int ln, .ref m1, .long pp, .long qq, .ref m2, .int hd, .ref m3, .ref m4, .ref m5, .ref m6, .ref m7, .ref m8, .ref m9, .ref m10])), (m2, .inl (cI, 128, .inl rs)), (m3, .inl (cL, 8, .inr (.inl (vp_updL L2 0 ((L2 0) ^^^ (mo_le rs 8))))))] := hD
        generalize eL3 : vp_updL L2 0 ((L2 0) ^^^ (mo_le rs 8)) = L3 at hP hD
        subst eL1
        subst eL2
        subst eL3
        exact ret _ _ _ _ hP hD hS dX3_sipBlock_53
      · exact absurd (by decide) c
    | succ d ihloopA =>
      intro j hj H locs ls hP hD hS hl
      have hl : lv_has ls 4 [(0, .ref m0), (1, .long (mo_le rs j)), (3, .int (nI (7 - j)))] := by rw [show 7 - j = d by omega]; exact hl
      refine lv_iload_n hx hb dX3_sipBlock_5 rfl (lv_at hl 2 rfl) ?_
      refine lv_if_lt (tgt := 28) hx hb dX3_sipBlock_6 (by decide) (fun c => ?_) (fun c => ?_)
      · exact absurd c (nI_pos (by omega))
      · refine lv_lload_n hx hb dX3_sipBlock_9 rfl (lv_at hl 1 rfl) ?_
        refine lv_bipush (v := 8) hx hb dX3_sipBlock_10 (by decide) ?_
        refine lv_lshl (v := (xm_l (mo_le rs j) 8)) hx hb dX3_sipBlock_12 rfl ?_
        refine lv_aload_n hx hb dX3_sipBlock_13 rfl (lv_at hl 0 rfl) ?_
        refine va_get (D := D) (ci := 3) (v := .ref m2) (C := RX3) (T := TX3) (N := 17) hx hb hts hi_3 hown hK hP 0 rfl rfl 7 (by decide) fl_13 (fun _ h9 => h9) rfl dX3_sipBlock_14 ?_
        refine lv_iload_n hx hb dX3_sipBlock_17 rfl (lv_at hl 2 rfl) ?_
        refine xk_iald hx hb hK hP 1 0 rfl rfl (7 - j) rfl (by omega) (by decide) dX3_sipBlock_18 ?_
        refine lv_i2l (v := (Int32.toInt64 (rs (7 - j)))) hx hb dX3_sipBlock_19 rfl ?_
        refine lv_lor hx hb dX3_sipBlock_20 ?_
        refine lv_lstore_n (lv' := [(1, .long ((xm_l (mo_le rs j) 8) ||| (Int32.toInt64 (rs (7 - j))))), (0, .ref m0), (3, .int (nI (7 - j)))]) hx hb dX3_sipBlock_21 rfl hl (by decide) rfl (fun ls hl => ?_)
        refine lv_iinc (v := xk_dv d) (lv' := [(3, .int (xk_dv d)), (1, .long ((xm_l (mo_le rs j) 8) ||| (Int32.toInt64 (rs (7 - j))))), (0, .ref m0)]) hx hb dX3_sipBlock_22 hl (k := 2) rfl (by rw [show 7 - j = d by omega]; exact xk_dvs d) (by decide) rfl (fun ls hl => ?_)
        refine lv_goto (tgt := 5) hx hb dX3_sipBlock_25 (by decide) ?_
        exact ihloopA (j + 1) (by omega) _ _ _ hP hD hS (lv_sub hl [2, 1, 0] rfl)
  exact loopA 8 0 rfl _ _ _ hP hD hS (lv_sub hl [2, 1, 0] rfl)
