abbrev rm_X3_init_ : Room := { frames := 0, cells := 0, slots := 0, locals := 0 }
set_option maxHeartbeats 4000000 in
set_option maxRecDepth 100000 in
theorem c_X3_init_ (l : Launch) (D : va_G) (cI cL : ClassId) (sz : Nat) (m0 : Nat) (m1 : Nat) (m2 : Nat) (m3 : Nat) (m4 : Nat) (m5 : Nat) (m6 : Nat) (m7 : Nat) (m8 : Nat) (m9 : Nat) (m10 : Nat) (rd : Int32) (md : Int32) (cd : Int32) (ln : Int32) (pp : Int64) (qq : Int64) (hd : Int32) : xk_V l yX3_init_ wsX3_init_ rm_X3_init_ xk_0 D classes [(cI, .int), (cL, .long)] [.ref m0] [(m0, .inr (3, [.int rd, .int md, .int cd, .int ln, .ref m1, .long pp, .long qq, .ref m2, .int hd, .ref m3, .ref m4, .ref m5, .ref m6, .ref m7, .ref m8, .ref m9, .ref m10]))] [(m0, .inr (3, [.int 1, .int md, .int cd, .int ln, .ref m1, .long pp, .long qq, .ref m2, .int hd, .ref m3, .ref m4, .ref m5, .ref m6, .ref m7, .ref m8, .ref m9, .ref m10]))] sz := by
  refine xk_entV (cc := cX3_init_) (maxL := 1) (by decide) rfl (Nat.le_of_ble_eq_true rfl) ?_
  intro p e s m args below meth co Q A ls hx hb hml hts hown hA hK hP hD hS hX ret hl
  have hl : lv_has ls 1 [(0, .ref m0)] := hl
  have hi_3 : ∀ w ∈ u_ws RX3 TX3 17, w ∈ wsX3_init_ := by decide +kernel
  have fl_78 := hts (.fieldLink RX3 78 "WideHashModel" "ready" "Z") (by decide +kernel)
  refine lv_aload_n hx hb dX3_init__0 rfl (lv_at hl 0 rfl) ?_
  refine lv_iconst (v := 1) hx hb dX3_init__1 (by decide) ?_
  refine va_put (D := D) (ci := 3) (v := .int 1) (ty := .boolean) (C := RX3) (T := TX3) (N := 17) hx hb hts hi_3 tyX3 tyX3_ok nmX3 hown hK hP hD hS 0 rfl rfl 0 (by decide) fl_78 (fun _ h9 => h9) rfl (by decide +kernel) rfl rfl (Nat.le_of_ble_eq_true rfl) dX3_init__2 (fun H locs hP hD hS => ?_)
  have hP : va_P D classes [(m0, .inr (3, [.int 1, .int md, .int cd, .int ln, .ref m1, .long pp, .long qq, .ref m2, .int hd, .ref m3, .ref m4, .ref m5, .ref m6, .ref m7, .ref m8, .ref m9, .ref m10]))] H := hP
  have hD : va_D A [(m0, .inr (3, [.int 1, .int md, .int cd, .int ln, .ref m1, .long pp, .long qq, .ref m2, .int hd, .ref m3, .ref m4, .ref m5, .ref m6, .ref m7, .ref m8, .ref m9, .ref m10]))] := hD
  exact ret _ _ _ _ hP hD hS dX3_init__5
abbrev rm_X3_begin : Room := { frames := 0, cells := 0, slots := 0, locals := 0 }
set_option maxHeartbeats 4000000 in
set_option maxRecDepth 100000 in
theorem c_X3_begin (l : Launch) (D : va_G) (cI cL : ClassId) (sz : Nat) (m0 : Nat) (m1 : Nat) (m2 : Nat) (m3 : Nat) (m4 : Nat) (m5 : Nat) (m6 : Nat) (m7 : Nat) (m8 : Nat) (m9 : Nat) (m10 : Nat) (rd : Int32) (md : Int32) (cd : Int32) (ln : Int32) (pp : Int64) (qq : Int64) (hd : Int32) (k : Int32) : xk_V l yX3_begin wsX3_begin rm_X3_begin xk_0 D classes [(cI, .int), (cL, .long)] [.ref m0, .int k] [(m0, .inr (3, [.int rd, .int md, .int cd, .int ln, .ref m1, .long pp, .long qq, .ref m2, .int hd, .ref m3, .ref m4, .ref m5, .ref m6, .ref m7, .ref m8, .ref m9, .ref m10]))] [(m0, .inr (3, [.int rd, .int k, .int 0, .int 0, .ref m1, .long pp, .long qq, .ref m2, .int 0, .ref m3, .ref m4, .ref m5, .ref m6, .ref m7, .ref m8, .ref m9, .ref m10]))] sz := by
  refine xk_entV (cc := cX3_begin) (maxL := 2) (by decide) rfl (Nat.le_of_ble_eq_true rfl) ?_
  intro p e s m args below meth co Q A ls hx hb hml hts hown hA hK hP hD hS hX ret hl
  have hl : lv_has ls 2 [(0, .ref m0), (1, .int k)] := hl
  have hi_3 : ∀ w ∈ u_ws RX3 TX3 17, w ∈ wsX3_begin := by decide +kernel
  have fl_82 := hts (.fieldLink RX3 82 "WideHashModel" "mode" "I") (by decide +kernel)
  have fl_86 := hts (.fieldLink RX3 86 "WideHashModel" "closed" "Z") (by decide +kernel)
  have fl_89 := hts (.fieldLink RX3 89 "WideHashModel" "length" "I") (by decide +kernel)
  have fl_92 := hts (.fieldLink RX3 92 "WideHashModel" "held" "I") (by decide +kernel)
  refine lv_aload_n hx hb dX3_begin_0 rfl (lv_at hl 0 rfl) ?_
  refine lv_iload_n hx hb dX3_begin_1 rfl (lv_at hl 1 rfl) ?_
  refine va_put (D := D) (ci := 3) (v := .int k) (ty := .int) (C := RX3) (T := TX3) (N := 17) hx hb hts hi_3 tyX3 tyX3_ok nmX3 hown hK hP hD hS 0 rfl rfl 1 (by decide) fl_82 (fun _ h9 => h9) rfl (by decide +kernel) rfl rfl (Nat.le_of_ble_eq_true rfl) dX3_begin_2 (fun H locs hP hD hS => ?_)
  have hP : va_P D classes [(m0, .inr (3, [.int rd, .int k, .int cd, .int ln, .ref m1, .long pp, .long qq, .ref m2, .int hd, .ref m3, .ref m4, .ref m5, .ref m6, .ref m7, .ref m8, .ref m9, .ref m10]))] H := hP
  have hD : va_D A [(m0, .inr (3, [.int rd, .int k, .int cd, .int ln, .ref m1, .long pp, .long qq, .ref m2, .int hd, .ref m3, .ref m4, .ref m5, .ref m6, .ref m7, .ref m8, .ref m9, .ref m10]))] := hD
  refine lv_aload_n hx hb dX3_begin_5 rfl (lv_at hl 0 rfl) ?_
  refine lv_iconst (v := 0) hx hb dX3_begin_6 (by decide) ?_
  refine va_put (D := D) (ci := 3) (v := .int 0) (ty := .boolean) (C := RX3) (T := TX3) (N := 17) hx hb hts hi_3 tyX3 tyX3_ok nmX3 hown hK hP hD hS 0 rfl rfl 2 (by decide) fl_86 (fun _ h9 => h9) rfl (by decide +kernel) rfl rfl (Nat.le_of_ble_eq_true rfl) dX3_begin_7 (fun H locs hP hD hS => ?_)
  have hP : va_P D classes [(m0, .inr (3, [.int rd, .int k, .int 0, .int ln, .ref m1, .long pp, .long qq, .ref m2, .int hd, .ref m3, .ref m4, .ref m5, .ref m6, .ref m7, .ref m8, .ref m9, .ref m10]))] H := hP
  have hD : va_D A [(m0, .inr (3, [.int rd, .int k, .int 0, .int ln, .ref m1, .long pp, .long qq, .ref m2, .int hd, .ref m3, .ref m4, .ref m5, .ref m6, .ref m7, .ref m8, .ref m9, .ref m10]))] := hD
  refine lv_aload_n hx hb dX3_begin_10 rfl (lv_at hl 0 rfl) ?_
  refine lv_iconst (v := 0) hx hb dX3_begin_11 (by decide) ?_
  refine va_put (D := D) (ci := 3) (v := .int 0) (ty := .int) (C := RX3) (T := TX3) (N := 17) hx hb hts hi_3 tyX3 tyX3_ok nmX3 hown hK hP hD hS 0 rfl rfl 3 (by decide) fl_89 (fun _ h9 => h9) rfl (by decide +kernel) rfl rfl (Nat.le_of_ble_eq_true rfl) dX3_begin_12 (fun H locs hP hD hS => ?_)
  have hP : va_P D classes [(m0, .inr (3, [.int rd, .int k, .int 0, .int 0, .ref m1, .long pp, .long qq, .ref m2, .int hd, .ref m3, .ref m4, .ref m5, .ref m6, .ref m7, .ref m8, .ref m9, .ref m10]))] H := hP
  have hD : va_D A [(m0, .inr (3, [.int rd, .int k, .int 0, .int 0, .ref m1, .long pp, .long qq, .ref m2, .int hd, .ref m3, .ref m4, .ref m5, .ref m6, .ref m7, .ref m8, .ref m9, .ref m10]))] := hD
  refine lv_aload_n hx hb dX3_begin_15 rfl (lv_at hl 0 rfl) ?_
  refine lv_iconst (v := 0) hx hb dX3_begin_16 (by decide) ?_
  refine va_put (D := D) (ci := 3) (v := .int 0) (ty := .int) (C := RX3) (T := TX3) (N := 17) hx hb hts hi_3 tyX3 tyX3_ok nmX3 hown hK hP hD hS 0 rfl rfl 8 (by decide) fl_92 (fun _ h9 => h9) rfl (by decide +kernel) rfl rfl (Nat.le_of_ble_eq_true rfl) dX3_begin_17 (fun H locs hP hD hS => ?_)
  have hP : va_P D classes [(m0, .inr (3, [.int rd, .int k, .int 0, .int 0, .ref m1, .long pp, .long qq, .ref m2, .int 0, .ref m3, .ref m4, .ref m5, .ref m6, .ref m7, .ref m8, .ref m9, .ref m10]))] H := hP
  have hD : va_D A [(m0, .inr (3, [.int rd, .int k, .int 0, .int 0, .ref m1, .long pp, .long qq, .ref m2, .int 0, .ref m3, .ref m4, .ref m5, .ref m6, .ref m7, .ref m8, .ref m9, .ref m10]))] := hD
  exact ret _ _ _ _ hP hD hS dX3_begin_20
abbrev rm_X3_isOpen_y : Room := { frames := 0, cells := 0, slots := 0, locals := 0 }
set_option maxHeartbeats 4000000 in
set_option maxRecDepth 100000 in
theorem c_X3_isOpen_y (l : Launch) (D : va_G) (cI cL : ClassId) (sz : Nat) (m0 : Nat) (m1 : Nat) (m2 : Nat) (m3 : Nat) (m4 : Nat) (m5 : Nat) (m6 : Nat) (m7 : Nat) (m8 : Nat) (m9 : Nat) (m10 : Nat) (rd : Int32) (md : Int32) (ln : Int32) (pp : Int64) (qq : Int64) (hd : Int32) (hm : ¬ md ≤ 0) : xk_I l yX3_isOpen wsX3_isOpen rm_X3_isOpen_y xk_0 D classes [(cI, .int), (cL, .long)] [.ref m0] [(m0, .inr (3, [.int rd, .int md, .int 0, .int ln, .ref m1, .long pp, .long qq, .ref m2, .int hd, .ref m3, .ref m4, .ref m5, .ref m6, .ref m7, .ref m8, .ref m9, .ref m10]))] [(m0, .inr (3, [.int rd, .int md, .int 0, .int ln, .ref m1, .long pp, .long qq, .ref m2, .int hd, .ref m3, .ref m4, .ref m5, .ref m6, .ref m7, .ref m8, .ref m9, .ref m10]))] (1) sz := by
  refine xk_entZ (cc := cX3_isOpen) (maxL := 1) (by decide) rfl (Nat.le_of_ble_eq_true rfl) (Or.inr rfl) ?_
  intro p e s m args below meth co Q A ls hx hb hml hts hown hA hK hP hD hS hX ret hl
  have hl : lv_has ls 1 [(0, .ref m0)] := hl
  have hi_3 : ∀ w ∈ u_ws RX3 TX3 17, w ∈ wsX3_isOpen := by decide +kernel
  have fl_82 := hts (.fieldLink RX3 82 "WideHashModel" "mode" "I") (by decide +kernel)
  have fl_86 := hts (.fieldLink RX3 86 "WideHashModel" "closed" "Z") (by decide +kernel)
  refine lv_aload_n hx hb dX3_isOpen_0 rfl (lv_at hl 0 rfl) ?_
  refine va_get (D := D) (ci := 3) (v := .int md) (C := RX3) (T := TX3) (N := 17) hx hb hts hi_3 hown hK hP 0 rfl rfl 1 (by decide) fl_82 (fun _ h9 => h9) rfl dX3_isOpen_1 ?_
  refine lv_if_le (tgt := 18) hx hb dX3_isOpen_4 (by decide) (fun c => ?_) (fun c => ?_)
  · exact absurd c hm
  · refine lv_aload_n hx hb dX3_isOpen_7 rfl (lv_at hl 0 rfl) ?_
    refine va_get (D := D) (ci := 3) (v := .int 0) (C := RX3) (T := TX3) (N := 17) hx hb hts hi_3 hown hK hP 0 rfl rfl 2 (by decide) fl_86 (fun _ h9 => h9) rfl dX3_isOpen_8 ?_
    refine lv_if_ne (tgt := 18) hx hb dX3_isOpen_11 (by decide) (fun c => ?_) (fun c => ?_)
    · exact absurd rfl c
    · refine lv_iconst (v := 1) hx hb dX3_isOpen_14 (by decide) ?_
      refine lv_goto (tgt := 19) hx hb dX3_isOpen_15 (by decide) ?_
      exact ret _ _ _ _ _ rfl hP hD hS dX3_isOpen_19
abbrev rm_X3_isOpen_no : Room := { frames := 0, cells := 0, slots := 0, locals := 0 }
set_option maxHeartbeats 4000000 in
set_option maxRecDepth 100000 in
theorem c_X3_isOpen_no (l : Launch) (D : va_G) (cI cL : ClassId) (sz : Nat) (m0 : Nat) (m1 : Nat) (m2 : Nat) (m3 : Nat) (m4 : Nat) (m5 : Nat) (m6 : Nat) (m7 : Nat) (m8 : Nat) (m9 : Nat) (m10 : Nat) (rd : Int32) (md : Int32) (cd : Int32) (ln : Int32) (pp : Int64) (qq : Int64) (hd : Int32) (hno : md ≤ 0 ∨ ¬ cd = 0) : xk_I l yX3_isOpen wsX3_isOpen rm_X3_isOpen_no xk_0 D classes [(cI, .int), (cL, .long)] [.ref m0] [(m0, .inr (3, [.int rd, .int md, .int cd, .int ln, .ref m1, .long pp, .long qq, .ref m2, .int hd, .ref m3, .ref m4, .ref m5, .ref m6, .ref m7, .ref m8, .ref m9, .ref m10]))] [(m0, .inr (3, [.int rd, .int md, .int cd, .int ln, .ref m1, .long pp, .long qq, .ref m2, .int hd, .ref m3, .ref m4, .ref m5, .ref m6, .ref m7, .ref m8, .ref m9, .ref m10]))] (0) sz := by
  refine xk_entZ (cc := cX3_isOpen) (maxL := 1) (by decide) rfl (Nat.le_of_ble_eq_true rfl) (Or.inl rfl) ?_
  intro p e s m args below meth co Q A ls hx hb hml hts hown hA hK hP hD hS hX ret hl
  have hl : lv_has ls 1 [(0, .ref m0)] := hl
  have hi_3 : ∀ w ∈ u_ws RX3 TX3 17, w ∈ wsX3_isOpen := by decide +kernel
  have fl_82 := hts (.fieldLink RX3 82 "WideHashModel" "mode" "I") (by decide +kernel)
  have fl_86 := hts (.fieldLink RX3 86 "WideHashModel" "closed" "Z") (by decide +kernel)
  refine lv_aload_n hx hb dX3_isOpen_0 rfl (lv_at hl 0 rfl) ?_
  refine va_get (D := D) (ci := 3) (v := .int md) (C := RX3) (T := TX3) (N := 17) hx hb hts hi_3 hown hK hP 0 rfl rfl 1 (by decide) fl_82 (fun _ h9 => h9) rfl dX3_isOpen_1 ?_
  refine lv_if_le (tgt := 18) hx hb dX3_isOpen_4 (by decide) (fun c1 => ?_) (fun c1 => ?_)
  · refine lv_iconst (v := 0) hx hb dX3_isOpen_18 (by decide) ?_
    exact ret _ _ _ _ _ rfl hP hD hS dX3_isOpen_19
  · refine lv_aload_n hx hb dX3_isOpen_7 rfl (lv_at hl 0 rfl) ?_
    refine va_get (D := D) (ci := 3) (v := .int cd) (C := RX3) (T := TX3) (N := 17) hx hb hts hi_3 hown hK hP 0 rfl rfl 2 (by decide) fl_86 (fun _ h9 => h9) rfl dX3_isOpen_8 ?_
    refine lv_if_ne (tgt := 18) hx hb dX3_isOpen_11 (by decide) (fun c2 => ?_) (fun c2 => ?_)
    · refine lv_iconst (v := 0) hx hb dX3_isOpen_18 (by decide) ?_
      exact ret _ _ _ _ _ rfl hP hD hS dX3_isOpen_19
    · exact hno.elim (fun h => absurd h c1) (fun h => absurd c2 h)
abbrev rm_X3_beginSha_no : Room := { frames := 0, cells := 0, slots := 0, locals := 0 }
set_option maxHeartbeats 4000000 in
set_option maxRecDepth 100000 in
theorem c_X3_beginSha_no (l : Launch) (D : va_G) (cI cL : ClassId) (sz : Nat) (m0 : Nat) (m1 : Nat) (m2 : Nat) (m3 : Nat) (m4 : Nat) (m5 : Nat) (m6 : Nat) (m7 : Nat) (m8 : Nat) (m9 : Nat) (m10 : Nat) (rd : Int32) (md : Int32) (cd : Int32) (ln : Int32) (pp : Int64) (qq : Int64) (hd : Int32) (b : Int32) (hno : rd = 0 ∨ (¬ b = 384 ∧ ¬ b = 512)) : xk_I l yX3_beginSha wsX3_beginSha rm_X3_beginSha_no xk_0 D classes [(cI, .int), (cL, .long)] [.ref m0, .int b] [(m0, .inr (3, [.int rd, .int md, .int cd, .int ln, .ref m1, .long pp, .long qq, .ref m2, .int hd, .ref m3, .ref m4, .ref m5, .ref m6, .ref m7, .ref m8, .ref m9, .ref m10]))] [(m0, .inr (3, [.int rd, .int md, .int cd, .int ln, .ref m1, .long pp, .long qq, .ref m2, .int hd, .ref m3, .ref m4, .ref m5, .ref m6, .ref m7, .ref m8, .ref m9, .ref m10]))] (0) sz := by
  refine xk_entZ (cc := cX3_beginSha) (maxL := 4) (by decide) rfl (Nat.le_of_ble_eq_true rfl) (Or.inl rfl) ?_
  intro p e s m args below meth co Q A ls hx hb hml hts hown hA hK hP hD hS hX ret hl
  have hl : lv_has ls 4 [(0, .ref m0), (1, .int b)] := hl
  have hi_3 : ∀ w ∈ u_ws RX3 TX3 17, w ∈ wsX3_beginSha := by decide +kernel
  have fl_78 := hts (.fieldLink RX3 78 "WideHashModel" "ready" "Z") (by decide +kernel)
  have fl_16 := hts (.fieldLink RX3 16 "WideHashModel" "state" "[J") (by decide +kernel)
  have fl_23 := hts (.fieldLink RX3 23 "WideHashModel" "squares" "[J") (by decide +kernel)
  refine lv_aload_n hx hb dX3_beginSha_0 rfl (lv_at hl 0 rfl) ?_
  refine va_get (D := D) (ci := 3) (v := .int rd) (C := RX3) (T := TX3) (N := 17) hx hb hts hi_3 hown hK hP 0 rfl rfl 0 (by decide) fl_78 (fun _ h9 => h9) rfl dX3_beginSha_1 ?_
  refine lv_if_eq (tgt := 25) hx hb dX3_beginSha_4 (by decide) (fun c1 => ?_) (fun c1 => ?_)
  · refine lv_iconst (v := 0) hx hb dX3_beginSha_25 (by decide) ?_
    refine lv_istore_n (lv' := [(2, .int 0), (0, .ref m0), (1, .int b)]) hx hb dX3_beginSha_26 rfl hl (by decide) rfl (fun ls hl => ?_)
    refine lv_iload_n hx hb dX3_beginSha_27 rfl (lv_at hl 0 rfl) ?_
    refine lv_if_eq (tgt := 87) hx hb dX3_beginSha_28 (by decide) (fun c => ?_) (fun c => ?_)
    · refine lv_iload_n hx hb dX3_beginSha_87 rfl (lv_at hl 0 rfl) ?_
      exact ret _ _ _ _ _ rfl hP hD hS dX3_beginSha_88
    · exact absurd rfl c
  · refine lv_iload_n hx hb dX3_beginSha_7 rfl (lv_at hl 1 rfl) ?_
    refine lv_sipush (v := 384) hx hb dX3_beginSha_8 (by decide) ?_
    refine lv_icmp_eq (tgt := 21) hx hb dX3_beginSha_11 (by decide) (fun c2 => ?_) (fun c2 => ?_)
    · exact hno.elim (fun h => absurd h c1) (fun h => absurd c2 h.1)
    · refine lv_iload_n hx hb dX3_beginSha_14 rfl (lv_at hl 1 rfl) ?_
      refine lv_sipush (v := 512) hx hb dX3_beginSha_15 (by decide) ?_
      refine lv_icmp_ne (tgt := 25) hx hb dX3_beginSha_18 (by decide) (fun c3 => ?_) (fun c3 => ?_)
      · refine lv_iconst (v := 0) hx hb dX3_beginSha_25 (by decide) ?_
        refine lv_istore_n (lv' := [(2, .int 0), (0, .ref m0), (1, .int b)]) hx hb dX3_beginSha_26 rfl hl (by decide) rfl (fun ls hl => ?_)
        refine lv_iload_n hx hb dX3_beginSha_27 rfl (lv_at hl 0 rfl) ?_
        refine lv_if_eq (tgt := 87) hx hb dX3_beginSha_28 (by decide) (fun c => ?_) (fun c => ?_)
        · refine lv_iload_n hx hb dX3_beginSha_87 rfl (lv_at hl 0 rfl) ?_
          exact ret _ _ _ _ _ rfl hP hD hS dX3_beginSha_88
        · exact absurd rfl c
      · exact hno.elim (fun h => absurd h c1) (fun h => absurd c3 h.2)
abbrev rm_X3_beginSha_5 : Room := { frames := 1, cells := 0, slots := 0, locals := 21 }
set_option maxHeartbeats 4000000 in
set_option maxRecDepth 100000 in
theorem c_X3_beginSha_5 (l : Launch) (D : va_G) (cI cL : ClassId) (sz : Nat) (m0 : Nat) (m1 : Nat) (m2 : Nat) (m3 : Nat) (m4 : Nat) (m5 : Nat) (m6 : Nat) (m7 : Nat) (m8 : Nat) (m9 : Nat) (m10 : Nat) (md : Int32) (cd : Int32) (ln : Int32) (pp : Int64) (qq : Int64) (hd : Int32) (st : Nat → Int64) (sq : Nat → Int64) : xk_I l yX3_beginSha wsX3_beginSha rm_X3_beginSha_5 xk_0 D classes [(cI, .int), (cL, .long)] [.ref m0, .int 512] [(m0, .inr (3, [.int 1, .int md, .int cd, .int ln, .ref m1, .long pp, .long qq, .ref m2, .int hd, .ref m3, .ref m4, .ref m5, .ref m6, .ref m7, .ref m8, .ref m9, .ref m10])), (m3, .inl (cL, 8, .inr (.inl st))), (m5, .inl (cL, 16, .inr (.inl sq)))] [(m0, .inr (3, [.int 1, .int 1, .int 0, .int 0, .ref m1, .long pp, .long qq, .ref m2, .int 0, .ref m3, .ref m4, .ref m5, .ref m6, .ref m7, .ref m8, .ref m9, .ref m10])), (m3, .inl (cL, 8, .inr (.inl (mo_cp st sq 8)))), (m5, .inl (cL, 16, .inr (.inl sq)))] (1) sz := by
  refine xk_entZ (cc := cX3_beginSha) (maxL := 4) (by decide) rfl (Nat.le_of_ble_eq_true rfl) (Or.inr rfl) ?_
  intro p e s m args below meth co Q A ls hx hb hml hts hown hA hK hP hD hS hX ret hl
  have hl : lv_has ls 4 [(0, .ref m0), (1, .int 512)] := hl
  have hi_3 : ∀ w ∈ u_ws RX3 TX3 17, w ∈ wsX3_beginSha := by decide +kernel
  have fl_78 := hts (.fieldLink RX3 78 "WideHashModel" "ready" "Z") (by decide +kernel)
  have fl_16 := hts (.fieldLink RX3 16 "WideHashModel" "state" "[J") (by decide +kernel)
  have fl_23 := hts (.fieldLink RX3 23 "WideHashModel" "squares" "[J") (by decide +kernel)
  refine lv_aload_n hx hb dX3_beginSha_0 rfl (lv_at hl 0 rfl) ?_
  refine va_get (D := D) (ci := 3) (v := .int 1) (C := RX3) (T := TX3) (N := 17) hx hb hts hi_3 hown hK hP 0 rfl rfl 0 (by decide) fl_78 (fun _ h9 => h9) rfl dX3_beginSha_1 ?_
  refine lv_if_eq (tgt := 25) hx hb dX3_beginSha_4 (by decide) (fun c => ?_) (fun c => ?_)
  · exact absurd c (by decide)
  · refine lv_iload_n hx hb dX3_beginSha_7 rfl (lv_at hl 1 rfl) ?_
    refine lv_sipush (v := 384) hx hb dX3_beginSha_8 (by decide) ?_
    refine lv_icmp_eq (tgt := 21) hx hb dX3_beginSha_11 (by decide) (fun c => ?_) (fun c => ?_)
    · exact absurd c (by decide)
    · refine lv_iload_n hx hb dX3_beginSha_14 rfl (lv_at hl 1 rfl) ?_
      refine lv_sipush (v := 512) hx hb dX3_beginSha_15 (by decide) ?_
      refine lv_icmp_ne (tgt := 25) hx hb dX3_beginSha_18 (by decide) (fun c => ?_) (fun c => ?_)
      · exact absurd rfl c
      · refine lv_iconst (v := 1) hx hb dX3_beginSha_21 (by decide) ?_
        refine lv_goto (tgt := 26) hx hb dX3_beginSha_22 (by decide) ?_
        refine lv_istore_n (lv' := [(2, .int 1), (0, .ref m0), (1, .int 512)]) hx hb dX3_beginSha_26 rfl hl (by decide) rfl (fun ls hl => ?_)
        refine lv_iload_n hx hb dX3_beginSha_27 rfl (lv_at hl 0 rfl) ?_
        refine lv_if_eq (tgt := 87) hx hb dX3_beginSha_28 (by decide) (fun c => ?_) (fun c => ?_)
        · exact absurd c (by decide)
        · refine lv_aload_n hx hb dX3_beginSha_31 rfl (lv_at hl 1 rfl) ?_
          refine lv_iload_n hx hb dX3_beginSha_32 rfl (lv_at hl 2 rfl) ?_
          refine lv_sipush (v := 384) hx hb dX3_beginSha_33 (by decide) ?_
          refine lv_icmp_ne (tgt := 43) hx hb dX3_beginSha_36 (by decide) (fun c => ?_) (fun c => ?_)
          · refine lv_iconst (v := 1) hx hb dX3_beginSha_43 (by decide) ?_
            refine xk_goV (wr := [(m3, .inl (cL, 8, .inr (.inl st))), (m5, .inl (cL, 16, .inr (.inl sq)))]) (w2 := [(m0, .inr (3, [.int 1, .int 1, .int 0, .int 0, .ref m1, .long pp, .long qq, .ref m2, .int 0, .ref m3, .ref m4, .ref m5, .ref m6, .ref m7, .ref m8, .ref m9, .ref m10])), (m3, .inl (cL, 8, .inr (.inl st))), (m5, .inl (cL, 16, .inr (.inl sq)))]) (va_runV (As := [.int 1]) (rest := []) ⟨hx, hb, hml, hown, hts⟩ (c_X3_begin l D cI cL s.heap.size m0 m1 m2 m3 m4 m5 m6 m7 m8 m9 m10 1 md cd ln pp qq hd 1) (cwV 1 hts gX3_beginSha_X3_begin rfl rfl rfl (by decide +kernel) ⟨Nat.le_of_ble_eq_true rfl, Nat.le_of_ble_eq_true rfl⟩) ⟨xk_blind xk_0_ok, va_recv hK hP (ci := 3) (q0 := 0) rfl rfl, xk_at xk_0_ok trivial hP hD hK hS hA [0] rfl (by decide) rfl⟩ rfl rfl hl.1 rfl (lv_room (Nat.le_of_ble_eq_true rfl)) dX3_beginSha_44 ⟨Nat.le_of_ble_eq_true rfl, Nat.le_of_ble_eq_true rfl⟩) hP hD hS hA [0] [1, 2] [2, 0, 1] rfl rfl (by decide) (by decide) rfl (by decide) rfl (fun H locs hP hD hS => ?_)
            refine lv_iconst (v := 0) hx hb dX3_beginSha_47 (by decide) ?_
            refine lv_istore_n (lv' := [(3, .int 0), (2, .int 1), (0, .ref m0), (1, .int 512)]) hx hb dX3_beginSha_48 rfl hl (by decide) rfl (fun ls hl => ?_)
            have loopA : ∀ (d : Nat) (k : Nat), (hk : k + d = 8) → ∀ (H : Heap) (locs : List Loc) (ls : Array Slot), va_P D classes [(m0, .inr (3, [.int 1, .int 1, .int 0, .int 0, .ref m1, .long pp, .long qq, .ref m2, .int 0, .ref m3, .ref m4, .ref m5, .ref m6, .ref m7, .ref m8, .ref m9, .ref m10])), (m3, .inl (cL, 8, .inr (.inl (mo_cp st sq k)))), (m5, .inl (cL, 16, .inr (.inl sq)))] H → va_D A [(m0, .inr (3, [.int 1, .int 1, .int 0, .int 0, .ref m1, .long pp, .long qq, .ref m2, .int 0, .ref m3, .ref m4, .ref m5, .ref m6, .ref m7, .ref m8, .ref m9, .ref m10])), (m3, .inl (cL, 8, .inr (.inl (mo_cp st sq k)))), (m5, .inl (cL, 16, .inr (.inl sq)))] → va_S A s.heap H locs → lv_has ls 4 [(0, .ref m0), (1, .int 512), (2, .int 1), (3, .int (nI k))] → W p l e rm_X3_beginSha_5 s m args below meth co H locs 0 0 Q (F0 m 49 ls []) := by
              intro d
              induction d with
              | zero =>
                intro k hk H locs ls hP hD hS hl
                obtain rfl : k = 8 := by omega
                refine lv_iload_n hx hb dX3_beginSha_49 rfl (lv_at hl 3 rfl) ?_
                refine lv_bipush (v := 8) hx hb dX3_beginSha_50 (by decide) ?_
                refine lv_icmp_ge (tgt := 87) hx hb dX3_beginSha_52 (by decide) (fun c => ?_) (fun c => ?_)
                · refine lv_iload_n hx hb dX3_beginSha_87 rfl (lv_at hl 2 rfl) ?_
                  exact ret _ _ _ _ _ rfl hP hD hS dX3_beginSha_88
                · exact absurd (nI_le (a := 8) (b := 8) (by omega) (by omega)) c
              | succ d ihloopA =>
                intro k hk H locs ls hP hD hS hl
                refine lv_iload_n hx hb dX3_beginSha_49 rfl (lv_at hl 3 rfl) ?_
                refine lv_bipush (v := 8) hx hb dX3_beginSha_50 (by decide) ?_
                refine lv_icmp_ge (tgt := 87) hx hb dX3_beginSha_52 (by decide) (fun c => ?_) (fun c => ?_)
                · exact absurd c (nI_ge (a := k) (b := 8) (by omega) (by omega))
                · refine lv_aload_n hx hb dX3_beginSha_55 rfl (lv_at hl 0 rfl) ?_
                  refine va_get (D := D) (ci := 3) (v := .ref m3) (C := RX3) (T := TX3) (N := 17) hx hb hts hi_3 hown hK hP 0 rfl rfl 9 (by decide) fl_16 (fun _ h9 => h9) rfl dX3_beginSha_56 ?_
                  refine lv_iload_n hx hb dX3_beginSha_59 rfl (lv_at hl 3 rfl) ?_
                  refine lv_aload_n hx hb dX3_beginSha_60 rfl (lv_at hl 0 rfl) ?_
                  refine va_get (D := D) (ci := 3) (v := .ref m5) (C := RX3) (T := TX3) (N := 17) hx hb hts hi_3 hown hK hP 0 rfl rfl 11 (by decide) fl_23 (fun _ h9 => h9) rfl dX3_beginSha_61 ?_
                  refine lv_iload_n hx hb dX3_beginSha_64 rfl (lv_at hl 1 rfl) ?_
                  refine lv_sipush (v := 384) hx hb dX3_beginSha_65 (by decide) ?_
                  refine lv_icmp_ne (tgt := 78) hx hb dX3_beginSha_68 (by decide) (fun c => ?_) (fun c => ?_)
                  · refine lv_iload_n hx hb dX3_beginSha_78 rfl (lv_at hl 3 rfl) ?_
                    refine xk_lald hx hb hK hP 2 1 rfl rfl k rfl (by omega) (by decide) dX3_beginSha_79 ?_
                    refine xk_last hx hb hK hP hD hS 1 1 rfl rfl k rfl (by omega) (by decide) dX3_beginSha_80 (fun H locs hP hD hS => ?_)
                    have hP : va_P D classes [(m0, .inr (3, [.int 1, .int 1, .int 0, .int 0, .ref m1, .long pp, .long qq, .ref m2, .int 0, .ref m3, .ref m4, .ref m5, .ref m6, .ref m7, .ref m8, .ref m9, .ref m10])), (m3, .inl (cL, 8, .inr (.inl (vp_updL (mo_cp st sq k) k (sq k))))), (m5, .inl (cL, 16, .inr (.inl sq)))] H := hP
                    have hD : va_D A [(m0, .inr (3, [.int 1, .int 1, .int 0, .int 0, .ref m1, .long pp, .long qq, .ref m2, .int 0, .ref m3, .ref m4, .ref m5, .ref m6, .ref m7, .ref m8, .ref m9, .ref m10])), (m3, .inl (cL, 8, .inr (.inl (vp_updL (mo_cp st sq k) k (sq k))))), (m5, .inl (cL, 16, .inr (.inl sq)))] := hD
                    generalize eL1 : vp_updL (mo_cp st sq k) k (sq k) = L1 at hP hD
                    refine lv_iinc (v := nI (k + 1)) (lv' := [(3, .int (nI (k + 1))), (0, .ref m0), (1, .int 512), (2, .int 1)]) hx hb dX3_beginSha_81 hl (k := 3) rfl (xk_i1 (by omega)) (by decide) rfl (fun ls hl => ?_)
                    refine lv_goto (tgt := 49) hx hb dX3_beginSha_84 (by decide) ?_
                    subst eL1
                    exact ihloopA (k + 1) (by omega) _ _ _ hP hD hS (lv_sub hl [1, 2, 3, 0] rfl)
                  · exact absurd c (by decide)
            exact loopA 8 0 rfl _ _ _ hP hD hS (lv_sub hl [2, 3, 1, 0] rfl)
          · exact absurd c (by decide)
abbrev rm_X3_beginSha_3 : Room := { frames := 1, cells := 0, slots := 0, locals := 21 }
set_option maxHeartbeats 4000000 in
set_option maxRecDepth 100000 in
theorem c_X3_beginSha_3 (l : Launch) (D : va_G) (cI cL : ClassId) (sz : Nat) (m0 : Nat) (m1 : Nat) (m2 : Nat) (m3 : Nat) (m4 : Nat) (m5 : Nat) (m6 : Nat) (m7 : Nat) (m8 : Nat) (m9 : Nat) (m10 : Nat) (md : Int32) (cd : Int32) (ln : Int32) (pp : Int64) (qq : Int64) (hd : Int32) (st : Nat → Int64) (sq : Nat → Int64) : xk_I l yX3_beginSha wsX3_beginSha rm_X3_beginSha_3 xk_0 D classes [(cI, .int), (cL, .long)] [.ref m0, .int 384] [(m0, .inr (3, [.int 1, .int md, .int cd, .int ln, .ref m1, .long pp, .long qq, .ref m2, .int hd, .ref m3, .ref m4, .ref m5, .ref m6, .ref m7, .ref m8, .ref m9, .ref m10])), (m3, .inl (cL, 8, .inr (.inl st))), (m5, .inl (cL, 16, .inr (.inl sq)))] [(m0, .inr (3, [.int 1, .int 2, .int 0, .int 0, .ref m1, .long pp, .long qq, .ref m2, .int 0, .ref m3, .ref m4, .ref m5, .ref m6, .ref m7, .ref m8, .ref m9, .ref m10])), (m3, .inl (cL, 8, .inr (.inl (mo_sq8 st sq 8)))), (m5, .inl (cL, 16, .inr (.inl sq)))] (1) sz := by
  refine xk_entZ (cc := cX3_beginSha) (maxL := 4) (by decide) rfl (Nat.le_of_ble_eq_true rfl) (Or.inr rfl) ?_
  intro p e s m args below meth co Q A ls hx hb hml hts hown hA hK hP hD hS hX ret hl
  have hl : lv_has ls 4 [(0, .ref m0), (1, .int 384)] := hl
  have hi_3 : ∀ w ∈ u_ws RX3 TX3 17, w ∈ wsX3_beginSha := by decide +kernel
  have fl_78 := hts (.fieldLink RX3 78 "WideHashModel" "ready" "Z") (by decide +kernel)
  have fl_16 := hts (.fieldLink RX3 16 "WideHashModel" "state" "[J") (by decide +kernel)
  have fl_23 := hts (.fieldLink RX3 23 "WideHashModel" "squares" "[J") (by decide +kernel)
  refine lv_aload_n hx hb dX3_beginSha_0 rfl (lv_at hl 0 rfl) ?_
  refine va_get (D := D) (ci := 3) (v := .int 1) (C := RX3) (T := TX3) (N := 17) hx hb hts hi_3 hown hK hP 0 rfl rfl 0 (by decide) fl_78 (fun _ h9 => h9) rfl dX3_beginSha_1 ?_
  refine lv_if_eq (tgt := 25) hx hb dX3_beginSha_4 (by decide) (fun c => ?_) (fun c => ?_)
  · exact absurd c (by decide)
  · refine lv_iload_n hx hb dX3_beginSha_7 rfl (lv_at hl 1 rfl) ?_
    refine lv_sipush (v := 384) hx hb dX3_beginSha_8 (by decide) ?_
    refine lv_icmp_eq (tgt := 21) hx hb dX3_beginSha_11 (by decide) (fun c => ?_) (fun c => ?_)
    · refine lv_iconst (v := 1) hx hb dX3_beginSha_21 (by decide) ?_
      refine lv_goto (tgt := 26) hx hb dX3_beginSha_22 (by decide) ?_
      refine lv_istore_n (lv' := [(2, .int 1), (0, .ref m0), (1, .int 384)]) hx hb dX3_beginSha_26 rfl hl (by decide) rfl (fun ls hl => ?_)
      refine lv_iload_n hx hb dX3_beginSha_27 rfl (lv_at hl 0 rfl) ?_
      refine lv_if_eq (tgt := 87) hx hb dX3_beginSha_28 (by decide) (fun c => ?_) (fun c => ?_)
      · exact absurd c (by decide)
      · refine lv_aload_n hx hb dX3_beginSha_31 rfl (lv_at hl 1 rfl) ?_
        refine lv_iload_n hx hb dX3_beginSha_32 rfl (lv_at hl 2 rfl) ?_
        refine lv_sipush (v := 384) hx hb dX3_beginSha_33 (by decide) ?_
        refine lv_icmp_ne (tgt := 43) hx hb dX3_beginSha_36 (by decide) (fun c => ?_) (fun c => ?_)
        · exact absurd rfl c
        · refine lv_iconst (v := 2) hx hb dX3_beginSha_39 (by decide) ?_
          refine lv_goto (tgt := 44) hx hb dX3_beginSha_40 (by decide) ?_
          refine xk_goV (wr := [(m3, .inl (cL, 8, .inr (.inl st))), (m5, .inl (cL, 16, .inr (.inl sq)))]) (w2 := [(m0, .inr (3, [.int 1, .int 2, .int 0, .int 0, .ref m1, .long pp, .long qq, .ref m2, .int 0, .ref m3, .ref m4, .ref m5, .ref m6, .ref m7, .ref m8, .ref m9, .ref m10])), (m3, .inl (cL, 8, .inr (.inl st))), (m5, .inl (cL, 16, .inr (.inl sq)))]) (va_runV (As := [.int 2]) (rest := []) ⟨hx, hb, hml, hown, hts⟩ (c_X3_begin l D cI cL s.heap.size m0 m1 m2 m3 m4 m5 m6 m7 m8 m9 m10 1 md cd ln pp qq hd 2) (cwV 1 hts gX3_beginSha_X3_begin rfl rfl rfl (by decide +kernel) ⟨Nat.le_of_ble_eq_true rfl, Nat.le_of_ble_eq_true rfl⟩) ⟨xk_blind xk_0_ok, va_recv hK hP (ci := 3) (q0 := 0) rfl rfl, xk_at xk_0_ok trivial hP hD hK hS hA [0] rfl (by decide) rfl⟩ rfl rfl hl.1 rfl (lv_room (Nat.le_of_ble_eq_true rfl)) dX3_beginSha_44 ⟨Nat.le_of_ble_eq_true rfl, Nat.le_of_ble_eq_true rfl⟩) hP hD hS hA [0] [1, 2] [2, 0, 1] rfl rfl (by decide) (by decide) rfl (by decide) rfl (fun H locs hP hD hS => ?_)
          refine lv_iconst (v := 0) hx hb dX3_beginSha_47 (by decide) ?_
          refine lv_istore_n (lv' := [(3, .int 0), (2, .int 1), (0, .ref m0), (1, .int 384)]) hx hb dX3_beginSha_48 rfl hl (by decide) rfl (fun ls hl => ?_)
          have loopA : ∀ (d : Nat) (k : Nat), (hk : k + d = 8) → ∀ (H : Heap) (locs : List Loc) (ls : Array Slot), va_P D classes [(m0, .inr (3, [.int 1, .int 2, .int 0, .int 0, .ref m1, .long pp, .long qq, .ref m2, .int 0, .ref m3, .ref m4, .ref m5, .ref m6, .ref m7, .ref m8, .ref m9, .ref m10])), (m3, .inl (cL, 8, .inr (.inl (mo_sq8 st sq k)))), (m5, .inl (cL, 16, .inr (.inl sq)))] H → va_D A [(m0, .inr (3, [.int 1, .int 2, .int 0, .int 0, .ref m1, .long pp, .long qq, .ref m2, .int 0, .ref m3, .ref m4, .ref m5, .ref m6, .ref m7, .ref m8, .ref m9, .ref m10])), (m3, .inl (cL, 8, .inr (.inl (mo_sq8 st sq k)))), (m5, .inl (cL, 16, .inr (.inl sq)))] → va_S A s.heap H locs → lv_has ls 4 [(0, .ref m0), (1, .int 384), (2, .int 1), (3, .int (nI k))] → W p l e rm_X3_beginSha_3 s m args below meth co H locs 0 0 Q (F0 m 49 ls []) := by
            intro d
            induction d with
            | zero =>
              intro k hk H locs ls hP hD hS hl
              obtain rfl : k = 8 := by omega
              refine lv_iload_n hx hb dX3_beginSha_49 rfl (lv_at hl 3 rfl) ?_
              refine lv_bipush (v := 8) hx hb dX3_beginSha_50 (by decide) ?_
              refine lv_icmp_ge (tgt := 87) hx hb dX3_beginSha_52 (by decide) (fun c => ?_) (fun c => ?_)
              · refine lv_iload_n hx hb dX3_beginSha_87 rfl (lv_at hl 2 rfl) ?_
                exact ret _ _ _ _ _ rfl hP hD hS dX3_beginSha_88
              · exact absurd (nI_le (a := 8) (b := 8) (by omega) (by omega)) c
            | succ d ihloopA =>
              intro k hk H locs ls hP hD hS hl
              refine lv_iload_n hx hb dX3_beginSha_49 rfl (lv_at hl 3 rfl) ?_
              refine lv_bipush (v := 8) hx hb dX3_beginSha_50 (by decide) ?_
              refine lv_icmp_ge (tgt := 87) hx hb dX3_beginSha_52 (by decide) (fun c => ?_) (fun c => ?_)
              · exact absurd c (nI_ge (a := k) (b := 8) (by omega) (by omega))
              · refine lv_aload_n hx hb dX3_beginSha_55 rfl (lv_at hl 0 rfl) ?_
                refine va_get (D := D) (ci := 3) (v := .ref m3) (C := RX3) (T := TX3) (N := 17) hx hb hts hi_3 hown hK hP 0 rfl rfl 9 (by decide) fl_16 (fun _ h9 => h9) rfl dX3_beginSha_56 ?_
                refine lv_iload_n hx hb dX3_beginSha_59 rfl (lv_at hl 3 rfl) ?_
                refine lv_aload_n hx hb dX3_beginSha_60 rfl (lv_at hl 0 rfl) ?_
                refine va_get (D := D) (ci := 3) (v := .ref m5) (C := RX3) (T := TX3) (N := 17) hx hb hts hi_3 hown hK hP 0 rfl rfl 11 (by decide) fl_23 (fun _ h9 => h9) rfl dX3_beginSha_61 ?_
                refine lv_iload_n hx hb dX3_beginSha_64 rfl (lv_at hl 1 rfl) ?_
                refine lv_sipush (v := 384) hx hb dX3_beginSha_65 (by decide) ?_
                refine lv_icmp_ne (tgt := 78) hx hb dX3_beginSha_68 (by decide) (fun c => ?_) (fun c => ?_)
                · exact absurd rfl c
                · refine lv_bipush (v := 8) hx hb dX3_beginSha_71 (by decide) ?_
                  refine lv_iload_n hx hb dX3_beginSha_73 rfl (lv_at hl 3 rfl) ?_
                  refine xk_iaddN hx hb 8 k (8 + k) rfl rfl (by omega) dX3_beginSha_74 ?_
                  refine lv_goto (tgt := 79) hx hb dX3_beginSha_75 (by decide) ?_
                  refine xk_lald hx hb hK hP 2 1 rfl rfl (8 + k) rfl (by omega) (by decide) dX3_beginSha_79 ?_
                  refine xk_last hx hb hK hP hD hS 1 1 rfl rfl k rfl (by omega) (by decide) dX3_beginSha_80 (fun H locs hP hD hS => ?_)
                  have hP : va_P D classes [(m0, .inr (3, [.int 1, .int 2, .int 0, .int 0, .ref m1, .long pp, .long qq, .ref m2, .int 0, .ref m3, .ref m4, .ref m5, .ref m6, .ref m7, .ref m8, .ref m9, .ref m10])), (m3, .inl (cL, 8, .inr (.inl (vp_updL (mo_sq8 st sq k) k (sq (8 + k)))))), (m5, .inl (cL, 16, .inr (.inl sq)))] H := hP
                  have hD : va_D A [(m0, .inr (3, [.int 1, .int 2, .int 0, .int 0, .ref m1, .long pp, .long qq, .ref m2, .int 0, .ref m3, .ref m4, .ref m5, .ref m6, .ref m7, .ref m8, .ref m9, .ref m10])), (m3, .inl (cL, 8, .inr (.inl (vp_updL (mo_sq8 st sq k) k (sq (8 + k)))))), (m5, .inl (cL, 16, .inr (.inl sq)))] := hD
                  generalize eL1 : vp_updL (mo_sq8 st sq k) k (sq (8 + k)) = L1 at hP hD
                  refine lv_iinc (v := nI (k + 1)) (lv' := [(3, .int (nI (k + 1))), (0, .ref m0), (1, .int 384), (2, .int 1)]) hx hb dX3_beginSha_81 hl (k := 3) rfl (xk_i1 (by omega)) (by decide) rfl (fun ls hl => ?_)
                  refine lv_goto (tgt := 49) hx hb dX3_beginSha_84 (by decide) ?_
                  subst eL1
                  exact ihloopA (k + 1) (by omega) _ _ _ hP hD hS (lv_sub hl [1, 2, 3, 0] rfl)
          exact loopA 8 0 rfl _ _ _ hP hD hS (lv_sub hl [2, 3, 1, 0] rfl)
    · exact absurd rfl c
abbrev rm_X3_sipKey_no : Room := { frames := 0, cells := 0, slots := 0, locals := 0 }
set_option maxHeartbeats 4000000 in
set_option maxRecDepth 100000 in
theorem c_X3_sipKey_no (l : Launch) (D : va_G) (cI cL : ClassId) (sz : Nat) (m0 : Nat) (m1 : Nat) (m2 : Nat) (m3 : Nat) (m4 : Nat) (m5 : Nat) (m6 : Nat) (m7 : Nat) (m8 : Nat) (m9 : Nat) (m10 : Nat) (rd : Int32) (md : Int32) (cd : Int32) (ln : Int32) (pp : Int64) (qq : Int64) (hd : Int32) (i : Int32) (u : Int32) (hno : i < 0 ∨ ¬ i ≤ 3) : xk_I l yX3_sipKey wsX3_sipKey rm_X3_sipKey_no xk_0 D classes [(cI, .int), (cL, .long)] [.ref m0, .int i, .int u] [(m0, .inr (3, [.int rd, .int md, .int cd, .int ln, .ref m1, .long pp, .long qq, .ref m2, .int hd, .ref m3, .ref m4, .ref m5, .ref m6, .ref m7, .ref m8, .ref m9, .ref m10]))] [(m0, .inr (3, [.int rd, .int md, .int cd, .int ln, .ref m1, .long pp, .long qq, .ref m2, .int hd, .ref m3, .ref m4, .ref m5, .ref m6, .ref m7, .ref m8, .ref m9, .ref m10]))] (0) sz := by
  refine xk_entZ (cc := cX3_sipKey) (maxL := 3) (by decide) rfl (Nat.le_of_ble_eq_true rfl) (Or.inl rfl) ?_
  intro p e s m args below meth co Q A ls hx hb hml hts hown hA hK hP hD hS hX ret hl
  have hl : lv_has ls 3 [(0, .ref m0), (1, .int i), (2, .int u)] := hl
  have hi_3 : ∀ w ∈ u_ws RX3 TX3 17, w ∈ wsX3_sipKey := by decide +kernel
  have fl_7 := hts (.fieldLink RX3 7 "WideHashModel" "halves" "[I") (by decide +kernel)
  refine lv_iload_n hx hb dX3_sipKey_0 rfl (lv_at hl 1 rfl) ?_
  refine lv_if_lt (tgt := 9) hx hb dX3_sipKey_1 (by decide) (fun c1 => ?_) (fun c1 => ?_)
  · refine lv_iconst (v := 0) hx hb dX3_sipKey_9 (by decide) ?_
    exact ret _ _ _ _ _ rfl hP hD hS dX3_sipKey_10
  · refine lv_iload_n hx hb dX3_sipKey_4 rfl (lv_at hl 1 rfl) ?_
    refine lv_iconst (v := 3) hx hb dX3_sipKey_5 (by decide) ?_
    refine lv_icmp_le (tgt := 11) hx hb dX3_sipKey_6 (by decide) (fun c2 => ?_) (fun c2 => ?_)
    · exact hno.elim (fun h => absurd h c1) (fun h => absurd c2 h)
    · refine lv_iconst (v := 0) hx hb dX3_sipKey_9 (by decide) ?_
      exact ret _ _ _ _ _ rfl hP hD hS dX3_sipKey_10
abbrev rm_X3_sipKey_y : Room := { frames := 0, cells := 0, slots := 0, locals := 0 }
set_option maxHeartbeats 4000000 in
set_option maxRecDepth 100000 in
theorem c_X3_sipKey_y (l : Launch) (D : va_G) (cI cL : ClassId) (sz : Nat) (m0 : Nat) (m1 : Nat) (m2 : Nat) (m3 : Nat) (m4 : Nat) (m5 : Nat) (m6 : Nat) (m7 : Nat) (m8 : Nat) (m9 : Nat) (m10 : Nat) (rd : Int32) (md : Int32) (cd : Int32) (ln : Int32) (pp : Int64) (qq : Int64) (hd : Int32) (hv : Nat → Int32) (i : Nat) (u : Int32) (hi : i < 4) : xk_I l yX3_sipKey wsX3_sipKey rm_X3_sipKey_y xk_0 D classes [(cI, .int), (cL, .long)] [.ref m0, .int (nI i), .int u] [(m0, .inr (3, [.int rd, .int md, .int cd, .int ln, .ref m1, .long pp, .long qq, .ref m2, .int hd, .ref m3, .ref m4, .ref m5, .ref m6, .ref m7, .ref m8, .ref m9, .ref m10])), (m1, .inl (cI, 4, .inl hv))] [(m0, .inr (3, [.int rd, .int md, .int cd, .int ln, .ref m1, .long pp, .long qq, .ref m2, .int hd, .ref m3, .ref m4, .ref m5, .ref m6, .ref m7, .ref m8, .ref m9, .ref m10])), (m1, .inl (cI, 4, .inl (upd hv i u)))] (1) sz := by
  refine xk_entZ (cc := cX3_sipKey) (maxL := 3) (by decide) rfl (Nat.le_of_ble_eq_true rfl) (Or.inr rfl) ?_
  intro p e s m args below meth co Q A ls hx hb hml hts hown hA hK hP hD hS hX ret hl
  have hl : lv_has ls 3 [(0, .ref m0), (1, .int (nI i)), (2, .int u)] := hl
  have hi_3 : ∀ w ∈ u_ws RX3 TX3 17, w ∈ wsX3_sipKey := by decide +kernel
  have fl_7 := hts (.fieldLink RX3 7 "WideHashModel" "halves" "[I") (by decide +kernel)
  refine lv_iload_n hx hb dX3_sipKey_0 rfl (lv_at hl 1 rfl) ?_
  refine lv_if_lt (tgt := 9) hx hb dX3_sipKey_1 (by decide) (fun c => ?_) (fun c => ?_)
  · exact absurd c (nI_pos (by omega))
  · refine lv_iload_n hx hb dX3_sipKey_4 rfl (lv_at hl 1 rfl) ?_
    refine lv_iconst (v := 3) hx hb dX3_sipKey_5 (by decide) ?_
    refine lv_icmp_le (tgt := 11) hx hb dX3_sipKey_6 (by decide) (fun c => ?_) (fun c => ?_)
    · refine lv_aload_n hx hb dX3_sipKey_11 rfl (lv_at hl 0 rfl) ?_
      refine va_get (D := D) (ci := 3) (v := .ref m1) (C := RX3) (T := TX3) (N := 17) hx hb hts hi_3 hown hK hP 0 rfl rfl 4 (by decide) fl_7 (fun _ h9 => h9) rfl dX3_sipKey_12 ?_
      refine lv_iload_n hx hb dX3_sipKey_15 rfl (lv_at hl 1 rfl) ?_
      refine lv_iload_n hx hb dX3_sipKey_16 rfl (lv_at hl 2 rfl) ?_
      refine xk_iast hx hb hK hP hD hS 1 0 rfl rfl i rfl (by omega) (by decide) dX3_sipKey_17 (fun H locs hP hD hS => ?_)
      have hP : va_P D classes [(m0, .inr (3, [.int rd, .int md, .int cd, .int ln, .ref m1, .long pp, .long qq, .ref m2, .int hd, .ref m3, .ref m4, .ref m5, .ref m6, .ref m7, .ref m8, .ref m9, .ref m10])), (m1, .inl (cI, 4, .inl (upd hv i u)))] H := hP
      have hD : va_D A [(m0, .inr (3, [.int rd, .int md, .int cd, .int ln, .ref m1, .long pp, .long qq, .ref m2, .int hd, .ref m3, .ref m4, .ref m5, .ref m6, .ref m7, .ref m8, .ref m9, .ref m10])), (m1, .inl (cI, 4, .inl (upd hv i u)))] := hD
      generalize eL1 : upd hv i u = L1 at hP hD
      refine lv_iconst (v := 1) hx hb dX3_sipKey_18 (by decide) ?_
      subst eL1
      exact ret _ _ _ _ _ rfl hP hD hS dX3_sipKey_19
    · exact absurd (nI_le (a := i) (b := 3) (by omega) (by omega)) c
abbrev rm_X3_beginSip_no : Room := { frames := 0, cells := 0, slots := 0, locals := 0 }
set_option maxHeartbeats 4000000 in
set_option maxRecDepth 100000 in
theorem c_X3_beginSip_no (l : Launch) (D : va_G) (cI cL : ClassId) (sz : Nat) (m0 : Nat) (m1 : Nat) (m2 : Nat) (m3 : Nat) (m4 : Nat) (m5 : Nat) (m6 : Nat) (m7 : Nat) (m8 : Nat) (m9 : Nat) (m10 : Nat) (md : Int32) (cd : Int32) (ln : Int32) (pp : Int64) (qq : Int64) (hd : Int32) : xk_I l yX3_beginSip wsX3_beginSip rm_X3_beginSip_no xk_0 D classes [(cI, .int), (cL, .long)] [.ref m0] [(m0, .inr (3, [.int 0, .int md, .int cd, .int ln, .ref m1, .long pp, .long qq, .ref m2, .int hd, .ref m3, .ref m4, .ref m5, .ref m6, .ref m7, .ref m8, .ref m9, .ref m10]))] [(m0, .inr (3, [.int 0, .int md, .int cd, .int ln, .ref m1, .long pp, .long qq, .ref m2, .int hd, .ref m3, .ref m4, .ref m5, .ref m6, .ref m7, .ref m8, .ref m9, .ref m10]))] (0) sz := by
  refine xk_entZ (cc := cX3_beginSip) (maxL := 1) (by decide) rfl (Nat.le_of_ble_eq_true rfl) (Or.inl rfl) ?_
  intro p e s m args below meth co Q A ls hx hb hml hts hown hA hK hP hD hS hX ret hl
  have hl : lv_has ls 1 [(0, .ref m0)] := hl
  have hi_3 : ∀ w ∈ u_ws RX3 TX3 17, w ∈ wsX3_beginSip := by decide +kernel
  have fl_78 := hts (.fieldLink RX3 78 "WideHashModel" "ready" "Z") (by decide +kernel)
  have fl_7 := hts (.fieldLink RX3 7 "WideHashModel" "halves" "[I") (by decide +kernel)
  have fl_98 := hts (.fieldLink RX3 98 "WideHashModel" "p" "J") (by decide +kernel)
  have fl_102 := hts (.fieldLink RX3 102 "WideHashModel" "q" "J") (by decide +kernel)
  have fl_16 := hts (.fieldLink RX3 16 "WideHashModel" "state" "[J") (by decide +kernel)
  have kc_105 := hts (.constantLong RX3 105 (8317987319222330741)) (by decide +kernel)
  have kc_107 := hts (.constantLong RX3 107 (7237128888997146477)) (by decide +kernel)
  have kc_109 := hts (.constantLong RX3 109 (7816392313619706465)) (by decide +kernel)
  have kc_111 := hts (.constantLong RX3 111 (8387220255154660723)) (by decide +kernel)
  refine lv_aload_n hx hb dX3_beginSip_0 rfl (lv_at hl 0 rfl) ?_
  refine va_get (D := D) (ci := 3) (v := .int 0) (C := RX3) (T := TX3) (N := 17) hx hb hts hi_3 hown hK hP 0 rfl rfl 0 (by decide) fl_78 (fun _ h9 => h9) rfl dX3_beginSip_1 ?_
  refine lv_if_ne (tgt := 9) hx hb dX3_beginSip_4 (by decide) (fun c => ?_) (fun c => ?_)
  · exact absurd rfl c
  · refine lv_iconst (v := 0) hx hb dX3_beginSip_7 (by decide) ?_
    exact ret _ _ _ _ _ rfl hP hD hS dX3_beginSip_8
abbrev rm_X3_beginSip_y : Room := { frames := 1, cells := 0, slots := 0, locals := 21 }
set_option maxHeartbeats 4000000 in
set_option maxRecDepth 100000 in
theorem c_X3_beginSip_y (l : Launch) (D : va_G) (cI cL : ClassId) (sz : Nat) (m0 : Nat) (m1 : Nat) (m2 : Nat) (m3 : Nat) (m4 : Nat) (m5 : Nat) (m6 : Nat) (m7 : Nat) (m8 : Nat) (m9 : Nat) (m10 : Nat) (md : Int32) (cd : Int32) (ln : Int32) (pp : Int64) (qq : Int64) (hd : Int32) (hv : Nat → Int32) (st : Nat → Int64) : xk_I l yX3_beginSip wsX3_beginSip rm_X3_beginSip_y xk_0 D classes [(cI, .int), (cL, .long)] [.ref m0] [(m0, .inr (3, [.int 1, .int md, .int cd, .int ln, .ref m1, .long pp, .long qq, .ref m2, .int hd, .ref m3, .ref m4, .ref m5, .ref m6, .ref m7, .ref m8, .ref m9, .ref m10])), (m1, .inl (cI, 4, .inl hv)), (m3, .inl (cL, 8, .inr (.inl st)))] [(m0, .inr (3, [.int 1, .int 3, .int 0, .int 0, .ref m1, .long (mo_of (hv 1) (hv 0)), .long (mo_of (hv 3) (hv 2)), .ref m2, .int 0, .ref m3, .ref m4, .ref m5, .ref m6, .ref m7, .ref m8, .ref m9, .ref m10])), (m1, .inl (cI, 4, .inl hv)), (m3, .inl (cL, 8, .inr (.inl (mo_first (mo_of (hv 1) (hv 0)) (mo_of (hv 3) (hv 2)) st))))] (1) sz := by
  refine xk_entZ (cc := cX3_beginSip) (maxL := 1) (by decide) rfl (Nat.le_of_ble_eq_true rfl) (Or.inr rfl) ?_
  intro p e s m args below meth co Q A ls hx hb hml hts hown hA hK hP hD hS hX ret hl
  have hl : lv_has ls 1 [(0, .ref m0)] := hl
  have hi_3 : ∀ w ∈ u_ws RX3 TX3 17, w ∈ wsX3_beginSip := by decide +kernel
  have fl_78 := hts (.fieldLink RX3 78 "WideHashModel" "ready" "Z") (by decide +kernel)
  have fl_7 := hts (.fieldLink RX3 7 "WideHashModel" "halves" "[I") (by decide +kernel)
  have fl_98 := hts (.fieldLink RX3 98 "WideHashModel" "p" "J") (by decide +kernel)
  have fl_102 := hts (.fieldLink RX3 102 "WideHashModel" "q" "J") (by decide +kernel)
  have fl_16 := hts (.fieldLink RX3 16 "WideHashModel" "state" "[J") (by decide +kernel)
  have kc_105 := hts (.constantLong RX3 105 (8317987319222330741)) (by decide +kernel)
  have kc_107 := hts (.constantLong RX3 107 (7237128888997146477)) (by decide +kernel)
  have kc_109 := hts (.constantLong RX3 109 (7816392313619706465)) (by decide +kernel)
  have kc_111 := hts (.constantLong RX3 111 (8387220255154660723)) (by decide +kernel)
  refine lv_aload_n hx hb dX3_beginSip_0 rfl (lv_at hl 0 rfl) ?_
  refine va_get (D := D) (ci := 3) (v := .int 1) (C := RX3) (T := TX3) (N := 17) hx hb hts hi_3 hown hK hP 0 rfl rfl 0 (by decide) fl_78 (fun _ h9 => h9) rfl dX3_beginSip_1 ?_
  refine lv_if_ne (tgt := 9) hx hb dX3_beginSip_4 (by decide) (fun c => ?_) (fun c => ?_)
  · refine lv_aload_n hx hb dX3_beginSip_9 rfl (lv_at hl 0 rfl) ?_
    refine lv_iconst (v := 3) hx hb dX3_beginSip_10 (by decide) ?_
    refine xk_goV (wr := [(m1, .inl (cI, 4, .inl hv)), (m3, .inl (cL, 8, .inr (.inl st)))]) (w2 := [(m0, .inr (3, [.int 1, .int 3, .int 0, .int 0, .ref m1, .long pp, .long qq, .ref m2, .int 0, .ref m3, .ref m4, .ref m5, .ref m6, .ref m7, .ref m8, .ref m9, .ref m10])), (m1, .inl (cI, 4, .inl hv)), (m3, .inl (cL, 8, .inr (.inl st)))]) (va_runV (As := [.int 3]) (rest := []) ⟨hx, hb, hml, hown, hts⟩ (c_X3_begin l D cI cL s.heap.size m0 m1 m2 m3 m4 m5 m6 m7 m8 m9 m10 1 md cd ln pp qq hd 3) (cwV 1 hts gX3_beginSip_X3_begin rfl rfl rfl (by decide +kernel) ⟨Nat.le_of_ble_eq_true rfl, Nat.le_of_ble_eq_true rfl⟩) ⟨xk_blind xk_0_ok, va_recv hK hP (ci := 3) (q0 := 0) rfl rfl, xk_at xk_0_ok trivial hP hD hK hS hA [0] rfl (by decide) rfl⟩ rfl rfl hl.1 rfl (lv_room (Nat.le_of_ble_eq_true rfl)) dX3_beginSip_11 ⟨Nat.le_of_ble_eq_true rfl, Nat.le_of_ble_eq_true rfl⟩) hP hD hS hA [0] [1, 2] [2, 0, 1] rfl rfl (by decide) (by decide) rfl (by decide) rfl (fun H locs hP hD hS => ?_)
    refine lv_aload_n hx hb dX3_beginSip_14 rfl (lv_at hl 0 rfl) ?_
    refine lv_aload_n hx hb dX3_beginSip_15 rfl (lv_at hl 0 rfl) ?_
    refine va_get (D := D) (ci := 3) (v := .ref m1) (C := RX3) (T := TX3) (N := 17) hx hb hts hi_3 hown hK hP 0 rfl rfl 4 (by decide) fl_7 (fun _ h9 => h9) rfl dX3_beginSip_16 ?_
    refine lv_iconst (v := 1) hx hb dX3_beginSip_19 (by decide) ?_
    refine xk_iald hx hb hK hP 1 0 rfl rfl 1 rfl (by omega) (by decide) dX3_beginSip_20 ?_
    refine lv_aload_n hx hb dX3_beginSip_21 rfl (lv_at hl 0 rfl) ?_
    refine va_get (D := D) (ci := 3) (v := .ref m1) (C := RX3) (T := TX3) (N := 17) hx hb hts hi_3 hown hK hP 0 rfl rfl 4 (by decide) fl_7 (fun _ h9 => h9) rfl dX3_beginSip_22 ?_
    refine lv_iconst (v := 0) hx hb dX3_beginSip_25 (by decide) ?_
    refine xk_iald hx hb hK hP 1 0 rfl rfl 0 rfl (by omega) (by decide) dX3_beginSip_26 ?_
    refine xk_goPL (r := (mo_of (hv 1) (hv 0))) (va_runS (As := [.int (hv 1), .int (hv 0)]) (rest := [.ref m0]) ⟨hx, hb, hml, hown, hts⟩ (c_X3_of l D (hv 1) (hv 0)) (va_cwS 2 hts gX3_beginSip_X3_of rfl rfl rfl (by decide +kernel) ⟨Nat.le_of_ble_eq_true rfl, Nat.le_of_ble_eq_true rfl⟩) preEq rfl rfl hl.1 rfl (lv_room (Nat.le_of_ble_eq_true rfl)) dX3_beginSip_27 ⟨Nat.le_of_ble_eq_true rfl, Nat.le_of_ble_eq_true rfl⟩) hP hS (fun H locs hP hS => ?_)
    refine va_put (D := D) (ci := 3) (v := .long (mo_of (hv 1) (hv 0))) (ty := .long) (C := RX3) (T := TX3) (N := 17) hx hb hts hi_3 tyX3 tyX3_ok nmX3 hown hK hP hD hS 0 rfl rfl 5 (by decide) fl_98 (fun _ h9 => h9) rfl (by decide +kernel) rfl rfl (Nat.le_of_ble_eq_true rfl) dX3_beginSip_30 (fun H locs hP hD hS => ?_)
    have hP : va_P D classes [(m0, .inr (3, [.int 1, .int 3, .int 0, .int 0, .ref m1, .long (mo_of (hv 1) (hv 0)), .long qq, .ref m2, .int 0, .ref m3, .ref m4, .ref m5, .ref m6, .ref m7, .ref m8, .ref m9, .ref m10])), (m1, .inl (cI, 4, .inl hv)), (m3, .inl (cL, 8, .inr (.inl st)))] H := hP
    have hD : va_D A [(m0, .inr (3, [.int 1, .int 3, .int 0, .int 0, .ref m1, .long (mo_of (hv 1) (hv 0)), .long qq, .ref m2, .int 0, .ref m3, .ref m4, .ref m5, .ref m6, .ref m7, .ref m8, .ref m9, .ref m10])), (m1, .inl (cI, 4, .inl hv)), (m3, .inl (cL, 8, .inr (.inl st)))] := hD
    refine lv_aload_n hx hb dX3_beginSip_33 rfl (lv_at hl 0 rfl) ?_
    refine lv_aload_n hx hb dX3_beginSip_34 rfl (lv_at hl 0 rfl) ?_
    refine va_get (D := D) (ci := 3) (v := .ref m1) (C := RX3) (T := TX3) (N := 17) hx hb hts hi_3 hown hK hP 0 rfl rfl 4 (by decide) fl_7 (fun _ h9 => h9) rfl dX3_beginSip_35 ?_
    refine lv_iconst (v := 3) hx hb dX3_beginSip_38 (by decide) ?_
    refine xk_iald hx hb hK hP 1 0 rfl rfl 3 rfl (by omega) (by decide) dX3_beginSip_39 ?_
    refine lv_aload_n hx hb dX3_beginSip_40 rfl (lv_at hl 0 rfl) ?_
    refine va_get (D := D) (ci := 3) (v := .ref m1) (C := RX3) (T := TX3) (N := 17) hx hb hts hi_3 hown hK hP 0 rfl rfl 4 (by decide) fl_7 (fun _ h9 => h9) rfl dX3_beginSip_41 ?_
    refine lv_iconst (v := 2) hx hb dX3_beginSip_44 (by decide) ?_
    refine xk_iald hx hb hK hP 1 0 rfl rfl 2 rfl (by omega) (by decide) dX3_beginSip_45 ?_
    refine xk_goPL (r := (mo_of (hv 3) (hv 2))) (va_runS (As := [.int (hv 3), .int (hv 2)]) (rest := [.ref m0]) ⟨hx, hb, hml, hown, hts⟩ (c_X3_of l D (hv 3) (hv 2)) (va_cwS 2 hts gX3_beginSip_X3_of rfl rfl rfl (by decide +kernel) ⟨Nat.le_of_ble_eq_true rfl, Nat.le_of_ble_eq_true rfl⟩) preEq rfl rfl hl.1 rfl (lv_room (Nat.le_of_ble_eq_true rfl)) dX3_beginSip_46 ⟨Nat.le_of_ble_eq_true rfl, Nat.le_of_ble_eq_true rfl⟩) hP hS (fun H locs hP hS => ?_)
    refine va_put (D := D) (ci := 3) (v := .long (mo_of (hv 3) (hv 2))) (ty := .long) (C := RX3) (T := TX3) (N := 17) hx hb hts hi_3 tyX3 tyX3_ok nmX3 hown hK hP hD hS 0 rfl rfl 6 (by decide) fl_102 (fun _ h9 => h9) rfl (by decide +kernel) rfl rfl (Nat.le_of_ble_eq_true rfl) dX3_beginSip_49 (fun H locs hP hD hS => ?_)
    have hP : va_P D classes [(m0, .inr (3, [.int 1, .int 3, .int 0, .int 0, .ref m1, .long (mo_of (hv 1) (hv 0)), .long (mo_of (hv 3) (hv 2)), .ref m2, .int 0, .ref m3, .ref m4, .ref m5, .ref m6, .ref m7, .ref m8, .ref m9, .ref m10])), (m1, .inl (cI, 4, .inl hv)), (m3, .inl (cL, 8, .inr (.inl st)))] H := hP
    have hD : va_D A [(m0, .inr (3, [.int 1, .int 3, .int 0, .int 0, .ref m1, .long (mo_of (hv 1) (hv 0)), .long (mo_of (hv 3) (hv 2)), .ref m2, .int 0, .ref m3, .ref m4, .ref m5, .ref m6, .ref m7, .ref m8, .ref m9, .ref m10])), (m1, .inl (cI, 4, .inl hv)), (m3, .inl (cL, 8, .inr (.inl st)))] := hD
    refine lv_aload_n hx hb dX3_beginSip_52 rfl (lv_at hl 0 rfl) ?_
    refine va_get (D := D) (ci := 3) (v := .ref m3) (C := RX3) (T := TX3) (N := 17) hx hb hts hi_3 hown hK hP 0 rfl rfl 9 (by decide) fl_16 (fun _ h9 => h9) rfl dX3_beginSip_53 ?_
    refine lv_iconst (v := 0) hx hb dX3_beginSip_56 (by decide) ?_
    refine lv_aload_n hx hb dX3_beginSip_57 rfl (lv_at hl 0 rfl) ?_
    refine va_get (D := D) (ci := 3) (v := .long (mo_of (hv 1) (hv 0))) (C := RX3) (T := TX3) (N := 17) hx hb hts hi_3 hown hK hP 0 rfl rfl 5 (by decide) fl_98 (fun _ h9 => h9) rfl dX3_beginSip_58 ?_
    refine lv_ldc2 (v := 8317987319222330741) hx hb hown kc_105 dX3_beginSip_61 ?_
    refine lv_lxor hx hb dX3_beginSip_64 ?_
    refine xk_last hx hb hK hP hD hS 2 1 rfl rfl 0 rfl (by omega) (by decide) dX3_beginSip_65 (fun H locs hP hD hS => ?_)
    have hP : va_P D classes [(m0, .inr (3, [.int 1, .int 3, .int 0, .int 0, .ref m1, .long (mo_of (hv 1) (hv 0)), .long (mo_of (hv 3) (hv 2)), .ref m2, .int 0, .ref m3, .ref m4, .ref m5, .ref m6, .ref m7, .ref m8, .ref m9, .ref m10])), (m1, .inl (cI, 4, .inl hv)), (m3, .inl (cL, 8, .inr (.inl (vp_updL st 0 ((mo_of (hv 1) (hv 0)) ^^^ 8317987319222330741)))))] H := hP
    have hD : va_D A [(m0, .inr (3, [.int 1, .int 3, .int 0, .int 0, .ref m1, .long (mo_of (hv 1) (hv 0)), .long (mo_of (hv 3) (hv 2)), .ref m2, .int 0, .ref m3, .ref m4, .ref m5, .ref m6, .ref m7, .ref m8, .ref m9, .ref m10])), (m1, .inl (cI, 4, .inl hv)), (m3, .inl (cL, 8, .inr (.inl (vp_updL st 0 ((mo_of (hv 1) (hv 0)) ^^^ 8317987319222330741)))))] := hD
    generalize eL1 : vp_updL st 0 ((mo_of (hv 1) (hv 0)) ^^^ 8317987319222330741) = L1 at hP hD
    refine lv_aload_n hx hb dX3_beginSip_66 rfl (lv_at hl 0 rfl) ?_
    refine va_get (D := D) (ci := 3) (v := .ref m3) (C := RX3) (T := TX3) (N := 17) hx hb hts hi_3 hown hK hP 0 rfl rfl 9 (by decide) fl_16 (fun _ h9 => h9) rfl dX3_beginSip_67 ?_
    refine lv_iconst (v := 1) hx hb dX3_beginSip_70 (by decide) ?_
    refine lv_aload_n hx hb dX3_beginSip_71 rfl (lv_at hl 0 rfl) ?_
    refine va_get (D := D) (ci := 3) (v := .long (mo_of (hv 3) (hv 2))) (C := RX3) (T := TX3) (N := 17) hx hb hts hi_3 hown hK hP 0 rfl rfl 6 (by decide) fl_102 (fun _ h9 => h9) rfl dX3_beginSip_72 ?_
    refine lv_ldc2 (v := 7237128888997146477) hx hb hown kc_107 dX3_beginSip_75 ?_
    refine lv_lxor hx hb dX3_beginSip_78 ?_
    refine xk_last hx hb hK hP hD hS 2 1 rfl rfl 1 rfl (by omega) (by decide) dX3_beginSip_79 (fun H locs hP hD hS => ?_)
    have hP : va_P D classes [(m0, .inr (3, [.int 1, .int 3, .int 0, .int 0, .ref m1, .long (mo_of (hv 1) (hv 0)), .long (mo_of (hv 3) (hv 2)), .ref m2, .int 0, .ref m3, .ref m4, .ref m5, .ref m6, .ref m7, .ref m8, .ref m9, .ref m10])), (m1, .inl (cI, 4, .inl hv)), (m3, .inl (cL, 8, .inr (.inl (vp_updL L1 1 ((mo_of (hv 3) (hv 2)) ^^^ 7237128888997146477)))))] H := hP
    have hD : va_D A [(m0, .inr (3, [.int 1, .int 3, .int 0, .int 0, .ref m1, .long (mo_of (hv 1) (hv 0)), .long (mo_of (hv 3) (hv 2)), .ref m2, .int 0, .ref m3, .ref m4, .ref m5, .ref m6, .ref m7, .ref m8, .ref m9, .ref m10])), (m1, .inl (cI, 4, .inl hv)), (m3, .inl (cL, 8, .inr (.inl (vp_updL L1 1 ((mo_of (hv 3) (hv 2)) ^^^ 7237128888997146477)))))] := hD
    generalize eL2 : vp_updL L1 1 ((mo_of (hv 3) (hv 2)) ^^^ 7237128888997146477) = L2 at hP hD
    refine lv_aload_n hx hb dX3_beginSip_80 rfl (lv_at hl 0 rfl) ?_
    refine va_get (D := D) (ci := 3) (v := .ref m3) (C := RX3) (T := TX3) (N := 17) hx hb hts hi_3 hown hK hP 0 rfl rfl 9 (by decide) fl_16 (fun _ h9 => h9) rfl dX3_beginSip_81 ?_
    refine lv_iconst (v := 2) hx hb dX3_beginSip_84 (by decide) ?_
    refine lv_aload_n hx hb dX3_beginSip_85 rfl (lv_at hl 0 rfl) ?_
    refine va_get (D := D) (ci := 3) (v := .long (mo_of (hv 1) (hv 0))) (C := RX3) (T := TX3) (N := 17) hx hb hts hi_3 hown hK hP 0 rfl rfl 5 (by decide) fl_98 (fun _ h9 => h9) rfl dX3_beginSip_86 ?_
    refine lv_ldc2 (v := 7816392313619706465) hx hb hown kc_109 dX3_beginSip_89 ?_
    refine lv_lxor hx hb dX3_beginSip_92 ?_
    refine xk_last hx hb hK hP hD hS 2 1 rfl rfl 2 rfl (by omega) (by decide) dX3_beginSip_93 (fun H locs hP hD hS => ?_)
    have hP : va_P D classes [(m0, .inr (3, [.int 1, .int 3, .int 0, .int 0, .ref m1, .long (mo_of (hv 1) (hv 0)), .long (mo_of (hv 3) (hv 2)), .ref m2, .int 0, .ref m3, .ref m4, .ref m5, .ref m6, .ref m7, .ref m8, .ref m9, .ref m10])), (m1, .inl (cI, 4, .inl hv)), (m3, .inl (cL, 8, .inr (.inl (vp_updL L2 2 ((mo_of (hv 1) (hv 0)) ^^^ 7816392313619706465)))))] H := hP
    have hD : va_D A [(m0, .inr (3, [.int 1, .int 3, .int 0, .int 0, .ref m1, .long (mo_of (hv 1) (hv 0)), .long (mo_of (hv 3) (hv 2)), .ref m2, .int 0, .ref m3, .ref m4, .ref m5, .ref m6, .ref m7, .ref m8, .ref m9, .ref m10])), (m1, .inl (cI, 4, .inl hv)), (m3, .inl (cL, 8, .inr (.inl (vp_updL L2 2 ((mo_of (hv 1) (hv 0)) ^^^ 7816392313619706465)))))] := hD
    generalize eL3 : vp_updL L2 2 ((mo_of (hv 1) (hv 0)) ^^^ 7816392313619706465) = L3 at hP hD
    refine lv_aload_n hx hb dX3_beginSip_94 rfl (lv_at hl 0 rfl) ?_
    refine va_get (D := D) (ci := 3) (v := .ref m3) (C := RX3) (T := TX3) (N := 17) hx hb hts hi_3 hown hK hP 0 rfl rfl 9 (by decide) fl_16 (fun _ h9 => h9) rfl dX3_beginSip_95 ?_
    refine lv_iconst (v := 3) hx hb dX3_beginSip_98 (by decide) ?_
    refine lv_aload_n hx hb dX3_beginSip_99 rfl (lv_at hl 0 rfl) ?_
    refine va_get (D := D) (ci := 3) (v := .long (mo_of (hv 3) (hv 2))) (C := RX3) (T := TX3) (N := 17) hx hb hts hi_3 hown hK hP 0 rfl rfl 6 (by decide) fl_102 (fun _ h9 => h9) rfl dX3_beginSip_100 ?_
    refine lv_ldc2 (v := 8387220255154660723) hx hb hown kc_111 dX3_beginSip_103 ?_
    refine lv_lxor hx hb dX3_beginSip_106 ?_
    refine xk_last hx hb hK hP hD hS 2 1 rfl rfl 3 rfl (by omega) (by decide) dX3_beginSip_107 (fun H locs hP hD hS => ?_)
    have hP : va_P D classes [(m0, .inr (3, [.int 1, .int 3, .int 0, .int 0, .ref m1, .long (mo_of (hv 1) (hv 0)), .long (mo_of (hv 3) (hv 2)), .ref m2, .int 0, .ref m3, .ref m4, .ref m5, .ref m6, .ref m7, .ref m8, .ref m9, .ref m10])), (m1, .inl (cI, 4, .inl hv)), (m3, .inl (cL, 8, .inr (.inl (vp_updL L3 3 ((mo_of (hv 3) (hv 2)) ^^^ 8387220255154660723)))))] H := hP
    have hD : va_D A [(m0, .inr (3, [.int 1, .int 3, .int 0, .int 0, .ref m1, .long (mo_of (hv 1) (hv 0)), .long (mo_of (hv 3) (hv 2)), .ref m2, .int 0, .ref m3, .ref m4, .ref m5, .ref m6, .ref m7, .ref m8, .ref m9, .ref m10])), (m1, .inl (cI, 4, .inl hv)), (m3, .inl (cL, 8, .inr (.inl (vp_updL L3 3 ((mo_of (hv 3) (hv 2)) ^^^ 8387220255154660723)))))] := hD
    generalize eL4 : vp_updL L3 3 ((mo_of (hv 3) (hv 2)) ^^^ 8387220255154660723) = L4 at hP hD
    refine lv_iconst (v := 1) hx hb dX3_beginSip_108 (by decide) ?_
    subst eL1
    subst eL2
    subst eL3
    subst eL4
    exact ret _ _ _ _ _ rfl hP hD hS dX3_beginSip_109
  · exact absurd c (by decide)
abbrev rm_X3_length : Room := { frames := 0, cells := 0, slots := 0, locals := 0 }
set_option maxHeartbeats 4000000 in
set_option maxRecDepth 100000 in
theorem c_X3_length (l : Launch) (D : va_G) (cI cL : ClassId) (sz : Nat) (m0 : Nat) (m1 : Nat) (m2 : Nat) (m3 : Nat) (m4 : Nat) (m5 : Nat) (m6 : Nat) (m7 : Nat) (m8 : Nat) (m9 : Nat) (m10 : Nat) (rd : Int32) (md : Int32) (cd : Int32) (ln : Int32) (pp : Int64) (qq : Int64) (hd : Int32) : xk_I l yX3_length wsX3_length rm_X3_length xk_0 D classes [(cI, .int), (cL, .long)] [.ref m0] [(m0, .inr (3, [.int rd, .int md, .int cd, .int ln, .ref m1, .long pp, .long qq, .ref m2, .int hd, .ref m3, .ref m4, .ref m5, .ref m6, .ref m7, .ref m8, .ref m9, .ref m10]))] [(m0, .inr (3, [.int rd, .int md, .int cd, .int ln, .ref m1, .long pp, .long qq, .ref m2, .int hd, .ref m3, .ref m4, .ref m5, .ref m6, .ref m7, .ref m8, .ref m9, .ref m10]))] (ln) sz := by
  refine xk_entI (cc := cX3_length) (maxL := 1) (by decide) rfl (Nat.le_of_ble_eq_true rfl) ?_
  intro p e s m args below meth co Q A ls hx hb hml hts hown hA hK hP hD hS hX ret hl
  have hl : lv_has ls 1 [(0, .ref m0)] := hl
  have hi_3 : ∀ w ∈ u_ws RX3 TX3 17, w ∈ wsX3_length := by decide +kernel
  have fl_89 := hts (.fieldLink RX3 89 "WideHashModel" "length" "I") (by decide +kernel)
  refine lv_aload_n hx hb dX3_length_0 rfl (lv_at hl 0 rfl) ?_
  refine va_get (D := D) (ci := 3) (v := .int ln) (C := RX3) (T := TX3) (N := 17) hx hb hts hi_3 hown hK hP 0 rfl rfl 3 (by decide) fl_89 (fun _ h9 => h9) rfl dX3_length_1 ?_
  exact ret _ _ _ _ _ rfl hP hD hS dX3_length_4
abbrev rm_X3_state_a : Room := { frames := 0, cells := 0, slots := 0, locals := 0 }
set_option maxHeartbeats 4000000 in
set_option maxRecDepth 100000 in
theorem c_X3_state_a (l : Launch) (D : va_G) (cI cL : ClassId) (sz : Nat) (m0 : Nat) (m1 : Nat) (m2 : Nat) (m3 : Nat) (m4 : Nat) (m5 : Nat) (m6 : Nat) (m7 : Nat) (m8 : Nat) (m9 : Nat) (m10 : Nat) (rd : Int32) (md : Int32) (cd : Int32) (ln : Int32) (pp : Int64) (qq : Int64) (hd : Int32) (h : cd = 0) : xk_I l yX3_state wsX3_state rm_X3_state_a xk_0 D classes [(cI, .int), (cL, .long)] [.ref m0] [(m0, .inr (3, [.int rd, .int md, .int cd, .int ln, .ref m1, .long pp, .long qq, .ref m2, .int hd, .ref m3, .ref m4, .ref m5, .ref m6, .ref m7, .ref m8, .ref m9, .ref m10]))] [(m0, .inr (3, [.int rd, .int md, .int cd, .int ln, .ref m1, .long pp, .long qq, .ref m2, .int hd, .ref m3, .ref m4, .ref m5, .ref m6, .ref m7, .ref m8, .ref m9, .ref m10]))] (md) sz := by
  refine xk_entI (cc := cX3_state) (maxL := 1) (by decide) rfl (Nat.le_of_ble_eq_true rfl) ?_
  intro p e s m args below meth co Q A ls hx hb hml hts hown hA hK hP hD hS hX ret hl
  have hl : lv_has ls 1 [(0, .ref m0)] := hl
  have hi_3 : ∀ w ∈ u_ws RX3 TX3 17, w ∈ wsX3_state := by decide +kernel
  have fl_86 := hts (.fieldLink RX3 86 "WideHashModel" "closed" "Z") (by decide +kernel)
  have fl_82 := hts (.fieldLink RX3 82 "WideHashModel" "mode" "I") (by decide +kernel)
  refine lv_aload_n hx hb dX3_state_0 rfl (lv_at hl 0 rfl) ?_
  refine va_get (D := D) (ci := 3) (v := .int cd) (C := RX3) (T := TX3) (N := 17) hx hb hts hi_3 hown hK hP 0 rfl rfl 2 (by decide) fl_86 (fun _ h9 => h9) rfl dX3_state_1 ?_
  refine lv_if_eq (tgt := 16) hx hb dX3_state_4 (by decide) (fun c => ?_) (fun c => ?_)
  · refine lv_aload_n hx hb dX3_state_16 rfl (lv_at hl 0 rfl) ?_
    refine va_get (D := D) (ci := 3) (v := .int md) (C := RX3) (T := TX3) (N := 17) hx hb hts hi_3 hown hK hP 0 rfl rfl 1 (by decide) fl_82 (fun _ h9 => h9) rfl dX3_state_17 ?_
    exact ret _ _ _ _ _ rfl hP hD hS dX3_state_20
  · exact absurd h c
abbrev rm_X3_state_b : Room := { frames := 0, cells := 0, slots := 0, locals := 0 }
set_option maxHeartbeats 4000000 in
set_option maxRecDepth 100000 in
theorem c_X3_state_b (l : Launch) (D : va_G) (cI cL : ClassId) (sz : Nat) (m0 : Nat) (m1 : Nat) (m2 : Nat) (m3 : Nat) (m4 : Nat) (m5 : Nat) (m6 : Nat) (m7 : Nat) (m8 : Nat) (m9 : Nat) (m10 : Nat) (rd : Int32) (md : Int32) (cd : Int32) (ln : Int32) (pp : Int64) (qq : Int64) (hd : Int32) (h : ¬ cd = 0) : xk_I l yX3_state wsX3_state rm_X3_state_b xk_0 D classes [(cI, .int), (cL, .long)] [.ref m0] [(m0, .inr (3, [.int rd, .int md, .int cd, .int ln, .ref m1, .long pp, .long qq, .ref m2, .int hd, .ref m3, .ref m4, .ref m5, .ref m6, .ref m7, .ref m8, .ref m9, .ref m10]))] [(m0, .inr (3, [.int rd, .int md, .int cd, .int ln, .ref m1, .long pp, .long qq, .ref m2, .int hd, .ref m3, .ref m4, .ref m5, .ref m6, .ref m7, .ref m8, .ref m9, .ref m10]))] (md + 4) sz := by
  refine xk_entI (cc := cX3_state) (maxL := 1) (by decide) rfl (Nat.le_of_ble_eq_true rfl) ?_
  intro p e s m args below meth co Q A ls hx hb hml hts hown hA hK hP hD hS hX ret hl
  have hl : lv_has ls 1 [(0, .ref m0)] := hl
  have hi_3 : ∀ w ∈ u_ws RX3 TX3 17, w ∈ wsX3_state := by decide +kernel
  have fl_86 := hts (.fieldLink RX3 86 "WideHashModel" "closed" "Z") (by decide +kernel)
  have fl_82 := hts (.fieldLink RX3 82 "WideHashModel" "mode" "I") (by decide +kernel)
  refine lv_aload_n hx hb dX3_state_0 rfl (lv_at hl 0 rfl) ?_
  refine va_get (D := D) (ci := 3) (v := .int cd) (C := RX3) (T := TX3) (N := 17) hx hb hts hi_3 hown hK hP 0 rfl rfl 2 (by decide) fl_86 (fun _ h9 => h9) rfl dX3_state_1 ?_
  refine lv_if_eq (tgt := 16) hx hb dX3_state_4 (by decide) (fun c => ?_) (fun c => ?_)
  · exact absurd c h
  · refine lv_aload_n hx hb dX3_state_7 rfl (lv_at hl 0 rfl) ?_
    refine va_get (D := D) (ci := 3) (v := .int md) (C := RX3) (T := TX3) (N := 17) hx hb hts hi_3 hown hK hP 0 rfl rfl 1 (by decide) fl_82 (fun _ h9 => h9) rfl dX3_state_8 ?_
    refine lv_iconst (v := 4) hx hb dX3_state_11 (by decide) ?_
    refine lv_iadd hx hb dX3_state_12 ?_
    refine lv_goto (tgt := 20) hx hb dX3_state_13 (by decide) ?_
    exact ret _ _ _ _ _ rfl hP hD hS dX3_state_20
