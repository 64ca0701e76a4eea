abbrev rm_X3_word_no : Room := { frames := 0, cells := 0, slots := 0, locals := 0 }
set_option maxHeartbeats 4000000 in
set_option maxRecDepth 100000 in
theorem c_X3_word_no (l : Launch) (D : va_G) (cI cL : ClassId) (sz : Nat) (m0 : Nat) (m1 : Nat) (m2 : Nat) (m3 : Nat) (m4 : Nat) (m5 : Nat) (m6 : Nat) (m7 : Nat) (m8 : Nat) (m9 : Nat) (m10 : Nat) (rd : Int32) (md : Int32) (cd : Int32) (ln : Int32) (pp : Int64) (qq : Int64) (hd : Int32) (i : Int32) (hno : cd = 0 ∨ i < 0 ∨ ¬ i < mo_n md) : xk_I l yX3_word wsX3_word rm_X3_word_no xk_0 D classes [(cI, .int), (cL, .long)] [.ref m0, .int i] [(m0, .inr (3, [.int rd, .int md, .int cd, .int ln, .ref m1, .long pp, .long qq, .ref m2, .int hd, .ref m3, .ref m4, .ref m5, .ref m6, .ref m7, .ref m8, .ref m9, .ref m10]))] [(m0, .inr (3, [.int rd, .int md, .int cd, .int ln, .ref m1, .long pp, .long qq, .ref m2, .int hd, .ref m3, .ref m4, .ref m5, .ref m6, .ref m7, .ref m8, .ref m9, .ref m10]))] (0) sz := by
  refine xk_entI (cc := cX3_word) (maxL := 3) (by decide) rfl (Nat.le_of_ble_eq_true rfl) ?_
  intro p e s m args below meth co Q A ls hx hb hml hts hown hA hK hP hD hS hX ret hl
  have hl : lv_has ls 3 [(0, .ref m0), (1, .int i)] := hl
  have hi_3 : ∀ w ∈ u_ws RX3 TX3 17, w ∈ wsX3_word := by decide +kernel
  have fl_82 := hts (.fieldLink RX3 82 "WideHashModel" "mode" "I") (by decide +kernel)
  have fl_86 := hts (.fieldLink RX3 86 "WideHashModel" "closed" "Z") (by decide +kernel)
  have fl_16 := hts (.fieldLink RX3 16 "WideHashModel" "state" "[J") (by decide +kernel)
  refine lv_aload_n hx hb dX3_word_0 rfl (lv_at hl 0 rfl) ?_
  refine va_get (D := D) (ci := 3) (v := .int md) (C := RX3) (T := TX3) (N := 17) hx hb hts hi_3 hown hK hP 0 rfl rfl 1 (by decide) fl_82 (fun _ h9 => h9) rfl dX3_word_1 ?_
  refine lv_iconst (v := 1) hx hb dX3_word_4 (by decide) ?_
  refine lv_icmp_ne (tgt := 13) hx hb dX3_word_5 (by decide) (fun c1 => ?_) (fun c1 => ?_)
  · refine lv_aload_n hx hb dX3_word_13 rfl (lv_at hl 0 rfl) ?_
    refine va_get (D := D) (ci := 3) (v := .int md) (C := RX3) (T := TX3) (N := 17) hx hb hts hi_3 hown hK hP 0 rfl rfl 1 (by decide) fl_82 (fun _ h9 => h9) rfl dX3_word_14 ?_
    refine lv_iconst (v := 2) hx hb dX3_word_17 (by decide) ?_
    refine lv_icmp_ne (tgt := 26) hx hb dX3_word_18 (by decide) (fun c2 => ?_) (fun c2 => ?_)
    · refine lv_iconst (v := 2) hx hb dX3_word_26 (by decide) ?_
      refine lv_istore_n (lv' := [(2, .int 2), (0, .ref m0), (1, .int i)]) hx hb dX3_word_27 rfl hl (by decide) rfl (fun ls hl => ?_)
      refine lv_aload_n hx hb dX3_word_28 rfl (lv_at hl 1 rfl) ?_
      refine va_get (D := D) (ci := 3) (v := .int cd) (C := RX3) (T := TX3) (N := 17) hx hb hts hi_3 hown hK hP 0 rfl rfl 2 (by decide) fl_86 (fun _ h9 => h9) rfl dX3_word_29 ?_
      refine lv_if_eq (tgt := 44) hx hb dX3_word_32 (by decide) (fun c5 => ?_) (fun c5 => ?_)
      · refine lv_iconst (v := 0) hx hb dX3_word_44 (by decide) ?_
        exact ret _ _ _ _ _ rfl hP hD hS dX3_word_45
      · refine lv_iload_n hx hb dX3_word_35 rfl (lv_at hl 2 rfl) ?_
        refine lv_if_lt (tgt := 44) hx hb dX3_word_36 (by decide) (fun c6 => ?_) (fun c6 => ?_)
        · refine lv_iconst (v := 0) hx hb dX3_word_44 (by decide) ?_
          exact ret _ _ _ _ _ rfl hP hD hS dX3_word_45
        · refine lv_iload_n hx hb dX3_word_39 rfl (lv_at hl 2 rfl) ?_
          refine lv_iload_n hx hb dX3_word_40 rfl (lv_at hl 0 rfl) ?_
          refine lv_icmp_lt (tgt := 46) hx hb dX3_word_41 (by decide) (fun c7 => ?_) (fun c7 => ?_)
          · exact hno.elim (fun h => absurd h c5) (fun h => h.elim (fun h => absurd h c6) (fun h => absurd (by rw [show mo_n md = 2 from by unfold mo_n; rw [if_neg c1, if_neg c2]]; exact c7) h))
          · refine lv_iconst (v := 0) hx hb dX3_word_44 (by decide) ?_
            exact ret _ _ _ _ _ rfl hP hD hS dX3_word_45
    · refine lv_bipush (v := 12) hx hb dX3_word_21 (by decide) ?_
      refine lv_goto (tgt := 27) hx hb dX3_word_23 (by decide) ?_
      refine lv_istore_n (lv' := [(2, .int 12), (0, .ref m0), (1, .int i)]) hx hb dX3_word_27 rfl hl (by decide) rfl (fun ls hl => ?_)
      refine lv_aload_n hx hb dX3_word_28 rfl (lv_at hl 1 rfl) ?_
      refine va_get (D := D) (ci := 3) (v := .int cd) (C := RX3) (T := TX3) (N := 17) hx hb hts hi_3 hown hK hP 0 rfl rfl 2 (by decide) fl_86 (fun _ h9 => h9) rfl dX3_word_29 ?_
      refine lv_if_eq (tgt := 44) hx hb dX3_word_32 (by decide) (fun c5 => ?_) (fun c5 => ?_)
      · refine lv_iconst (v := 0) hx hb dX3_word_44 (by decide) ?_
        exact ret _ _ _ _ _ rfl hP hD hS dX3_word_45
      · refine lv_iload_n hx hb dX3_word_35 rfl (lv_at hl 2 rfl) ?_
        refine lv_if_lt (tgt := 44) hx hb dX3_word_36 (by decide) (fun c6 => ?_) (fun c6 => ?_)
        · refine lv_iconst (v := 0) hx hb dX3_word_44 (by decide) ?_
          exact ret _ _ _ _ _ rfl hP hD hS dX3_word_45
        · refine lv_iload_n hx hb dX3_word_39 rfl (lv_at hl 2 rfl) ?_
          refine lv_iload_n hx hb dX3_word_40 rfl (lv_at hl 0 rfl) ?_
          refine lv_icmp_lt (tgt := 46) hx hb dX3_word_41 (by decide) (fun c7 => ?_) (fun c7 => ?_)
          · exact hno.elim (fun h => absurd h c5) (fun h => h.elim (fun h => absurd h c6) (fun h => absurd (by rw [show mo_n md = 12 from by unfold mo_n; rw [if_neg c1, if_pos c2]]; exact c7) h))
          · refine lv_iconst (v := 0) hx hb dX3_word_44 (by decide) ?_
            exact ret _ _ _ _ _ rfl hP hD hS dX3_word_45
  · refine lv_bipush (v := 16) hx hb dX3_word_8 (by decide) ?_
    refine lv_goto (tgt := 27) hx hb dX3_word_10 (by decide) ?_
    refine lv_istore_n (lv' := [(2, .int 16), (0, .ref m0), (1, .int i)]) hx hb dX3_word_27 rfl hl (by decide) rfl (fun ls hl => ?_)
    refine lv_aload_n hx hb dX3_word_28 rfl (lv_at hl 1 rfl) ?_
    refine va_get (D := D) (ci := 3) (v := .int cd) (C := RX3) (T := TX3) (N := 17) hx hb hts hi_3 hown hK hP 0 rfl rfl 2 (by decide) fl_86 (fun _ h9 => h9) rfl dX3_word_29 ?_
    refine lv_if_eq (tgt := 44) hx hb dX3_word_32 (by decide) (fun c5 => ?_) (fun c5 => ?_)
    · refine lv_iconst (v := 0) hx hb dX3_word_44 (by decide) ?_
      exact ret _ _ _ _ _ rfl hP hD hS dX3_word_45
    · refine lv_iload_n hx hb dX3_word_35 rfl (lv_at hl 2 rfl) ?_
      refine lv_if_lt (tgt := 44) hx hb dX3_word_36 (by decide) (fun c6 => ?_) (fun c6 => ?_)
      · refine lv_iconst (v := 0) hx hb dX3_word_44 (by decide) ?_
        exact ret _ _ _ _ _ rfl hP hD hS dX3_word_45
      · refine lv_iload_n hx hb dX3_word_39 rfl (lv_at hl 2 rfl) ?_
        refine lv_iload_n hx hb dX3_word_40 rfl (lv_at hl 0 rfl) ?_
        refine lv_icmp_lt (tgt := 46) hx hb dX3_word_41 (by decide) (fun c7 => ?_) (fun c7 => ?_)
        · exact hno.elim (fun h => absurd h c5) (fun h => h.elim (fun h => absurd h c6) (fun h => absurd (by rw [show mo_n md = 16 from if_pos c1]; exact c7) h))
        · refine lv_iconst (v := 0) hx hb dX3_word_44 (by decide) ?_
          exact ret _ _ _ _ _ rfl hP hD hS dX3_word_45
abbrev rm_X3_word_1 : Room := { frames := 0, cells := 0, slots := 0, locals := 0 }
set_option maxHeartbeats 4000000 in
set_option maxRecDepth 100000 in
theorem c_X3_word_1 (l : Launch) (D : va_G) (cI cL : ClassId) (sz : Nat) (m0 : Nat) (m1 : Nat) (m2 : Nat) (m3 : Nat) (m4 : Nat) (m5 : Nat) (m6 : Nat) (m7 : Nat) (m8 : Nat) (m9 : Nat) (m10 : Nat) (rd : Int32) (ln : Int32) (pp : Int64) (qq : Int64) (hd : Int32) (st : Nat → Int64) (j : Nat) (hj : j < 16) : xk_I l yX3_word wsX3_word rm_X3_word_1 xk_0 D classes [(cI, .int), (cL, .long)] [.ref m0, .int (nI j)] [(m0, .inr (3, [.int rd, .int 1, .int 1, .int ln, .ref m1, .long pp, .long qq, .ref m2, .int hd, .ref m3, .ref m4, .ref m5, .ref m6, .ref m7, .ref m8, .ref m9, .ref m10])), (m3, .inl (cL, 8, .inr (.inl st)))] [(m0, .inr (3, [.int rd, .int 1, .int 1, .int ln, .ref m1, .long pp, .long qq, .ref m2, .int hd, .ref m3, .ref m4, .ref m5, .ref m6, .ref m7, .ref m8, .ref m9, .ref m10])), (m3, .inl (cL, 8, .inr (.inl st)))] (mo_word st j) sz := by
  refine xk_entI (cc := cX3_word) (maxL := 3) (by decide) rfl (Nat.le_of_ble_eq_true rfl) ?_
  intro p e s m args below meth co Q A ls hx hb hml hts hown hA hK hP hD hS hX ret hl
  have hl : lv_has ls 3 [(0, .ref m0), (1, .int (nI j))] := hl
  have hi_3 : ∀ w ∈ u_ws RX3 TX3 17, w ∈ wsX3_word := by decide +kernel
  have fl_82 := hts (.fieldLink RX3 82 "WideHashModel" "mode" "I") (by decide +kernel)
  have fl_86 := hts (.fieldLink RX3 86 "WideHashModel" "closed" "Z") (by decide +kernel)
  have fl_16 := hts (.fieldLink RX3 16 "WideHashModel" "state" "[J") (by decide +kernel)
  refine lv_aload_n hx hb dX3_word_0 rfl (lv_at hl 0 rfl) ?_
  refine va_get (D := D) (ci := 3) (v := .int 1) (C := RX3) (T := TX3) (N := 17) hx hb hts hi_3 hown hK hP 0 rfl rfl 1 (by decide) fl_82 (fun _ h9 => h9) rfl dX3_word_1 ?_
  refine lv_iconst (v := 1) hx hb dX3_word_4 (by decide) ?_
  refine lv_icmp_ne (tgt := 13) hx hb dX3_word_5 (by decide) (fun c => ?_) (fun c => ?_)
  · exact absurd rfl c
  · refine lv_bipush (v := 16) hx hb dX3_word_8 (by decide) ?_
    refine lv_goto (tgt := 27) hx hb dX3_word_10 (by decide) ?_
    refine lv_istore_n (lv' := [(2, .int 16), (0, .ref m0), (1, .int (nI j))]) hx hb dX3_word_27 rfl hl (by decide) rfl (fun ls hl => ?_)
    refine lv_aload_n hx hb dX3_word_28 rfl (lv_at hl 1 rfl) ?_
    refine va_get (D := D) (ci := 3) (v := .int 1) (C := RX3) (T := TX3) (N := 17) hx hb hts hi_3 hown hK hP 0 rfl rfl 2 (by decide) fl_86 (fun _ h9 => h9) rfl dX3_word_29 ?_
    refine lv_if_eq (tgt := 44) hx hb dX3_word_32 (by decide) (fun c => ?_) (fun c => ?_)
    · exact absurd c (by decide)
    · refine lv_iload_n hx hb dX3_word_35 rfl (lv_at hl 2 rfl) ?_
      refine lv_if_lt (tgt := 44) hx hb dX3_word_36 (by decide) (fun c => ?_) (fun c => ?_)
      · exact absurd c (nI_pos (by omega))
      · refine lv_iload_n hx hb dX3_word_39 rfl (lv_at hl 2 rfl) ?_
        refine lv_iload_n hx hb dX3_word_40 rfl (lv_at hl 0 rfl) ?_
        refine lv_icmp_lt (tgt := 46) hx hb dX3_word_41 (by decide) (fun c => ?_) (fun c => ?_)
        · refine lv_iload_n hx hb dX3_word_46 rfl (lv_at hl 2 rfl) ?_
          refine lv_iconst (v := 2) hx hb dX3_word_47 (by decide) ?_
          refine xk_iremN hx hb j 2 (j % 2) rfl rfl (by omega) (by decide) (by decide) (by omega) dX3_word_48 ?_
          refine lv_if_ne (tgt := 66) hx hb dX3_word_49 (by decide) (fun c1 => ?_) (fun c1 => ?_)
          · have c2 : ¬ j % 2 = 0 := fun h => c1 (by rw [h]; rfl)
            refine lv_aload_n hx hb dX3_word_66 rfl (lv_at hl 1 rfl) ?_
            refine va_get (D := D) (ci := 3) (v := .ref m3) (C := RX3) (T := TX3) (N := 17) hx hb hts hi_3 hown hK hP 0 rfl rfl 9 (by decide) fl_16 (fun _ h9 => h9) rfl dX3_word_67 ?_
            refine lv_iload_n hx hb dX3_word_70 rfl (lv_at hl 2 rfl) ?_
            refine lv_iconst (v := 2) hx hb dX3_word_71 (by decide) ?_
            refine xk_idivN hx hb j 2 (j / 2) rfl rfl (by omega) (by decide) (by decide) (by omega) dX3_word_72 ?_
            refine xk_lald hx hb hK hP 1 1 rfl rfl (j / 2) rfl (by omega) (by decide) dX3_word_73 ?_
            refine lv_l2i (v := (Int64.toInt32 (st (j / 2)))) hx hb dX3_word_74 rfl ?_
            exact ret _ _ _ _ _ (if_neg c2).symm hP hD hS dX3_word_75
          · have c2 : j % 2 = 0 := (nI_eq (by omega) (by omega)).mp c1
            refine lv_aload_n hx hb dX3_word_52 rfl (lv_at hl 1 rfl) ?_
            refine va_get (D := D) (ci := 3) (v := .ref m3) (C := RX3) (T := TX3) (N := 17) hx hb hts hi_3 hown hK hP 0 rfl rfl 9 (by decide) fl_16 (fun _ h9 => h9) rfl dX3_word_53 ?_
            refine lv_iload_n hx hb dX3_word_56 rfl (lv_at hl 2 rfl) ?_
            refine lv_iconst (v := 2) hx hb dX3_word_57 (by decide) ?_
            refine xk_idivN hx hb j 2 (j / 2) rfl rfl (by omega) (by decide) (by decide) (by omega) dX3_word_58 ?_
            refine xk_lald hx hb hK hP 1 1 rfl rfl (j / 2) rfl (by omega) (by decide) dX3_word_59 ?_
            refine lv_bipush (v := 32) hx hb dX3_word_60 (by decide) ?_
            refine lv_lshr (v := (xm_r (st (j / 2)) 32)) hx hb dX3_word_62 rfl ?_
            refine lv_goto (tgt := 74) hx hb dX3_word_63 (by decide) ?_
            refine lv_l2i (v := (Int64.toInt32 (xm_r (st (j / 2)) 32))) hx hb dX3_word_74 rfl ?_
            exact ret _ _ _ _ _ (if_pos c2).symm hP hD hS dX3_word_75
        · exact absurd (nI_lt (a := j) (b := 16) (by omega) (by omega)) c
abbrev rm_X3_word_2 : Room := { frames := 0, cells := 0, slots := 0, locals := 0 }
set_option maxHeartbeats 4000000 in
set_option maxRecDepth 100000 in
theorem c_X3_word_2 (l : Launch) (D : va_G) (cI cL : ClassId) (sz : Nat) (m0 : Nat) (m1 : Nat) (m2 : Nat) (m3 : Nat) (m4 : Nat) (m5 : Nat) (m6 : Nat) (m7 : Nat) (m8 : Nat) (m9 : Nat) (m10 : Nat) (rd : Int32) (ln : Int32) (pp : Int64) (qq : Int64) (hd : Int32) (st : Nat → Int64) (j : Nat) (hj : j < 12) : xk_I l yX3_word wsX3_word rm_X3_word_2 xk_0 D classes [(cI, .int), (cL, .long)] [.ref m0, .int (nI j)] [(m0, .inr (3, [.int rd, .int 2, .int 1, .int ln, .ref m1, .long pp, .long qq, .ref m2, .int hd, .ref m3, .ref m4, .ref m5, .ref m6, .ref m7, .ref m8, .ref m9, .ref m10])), (m3, .inl (cL, 8, .inr (.inl st)))] [(m0, .inr (3, [.int rd, .int 2, .int 1, .int ln, .ref m1, .long pp, .long qq, .ref m2, .int hd, .ref m3, .ref m4, .ref m5, .ref m6, .ref m7, .ref m8, .ref m9, .ref m10])), (m3, .inl (cL, 8, .inr (.inl st)))] (mo_word st j) sz := by
  refine xk_entI (cc := cX3_word) (maxL := 3) (by decide) rfl (Nat.le_of_ble_eq_true rfl) ?_
  intro p e s m args below meth co Q A ls hx hb hml hts hown hA hK hP hD hS hX ret hl
  have hl : lv_has ls 3 [(0, .ref m0), (1, .int (nI j))] := hl
  have hi_3 : ∀ w ∈ u_ws RX3 TX3 17, w ∈ wsX3_word := by decide +kernel
  have fl_82 := hts (.fieldLink RX3 82 "WideHashModel" "mode" "I") (by decide +kernel)
  have fl_86 := hts (.fieldLink RX3 86 "WideHashModel" "closed" "Z") (by decide +kernel)
  have fl_16 := hts (.fieldLink RX3 16 "WideHashModel" "state" "[J") (by decide +kernel)
  refine lv_aload_n hx hb dX3_word_0 rfl (lv_at hl 0 rfl) ?_
  refine va_get (D := D) (ci := 3) (v := .int 2) (C := RX3) (T := TX3) (N := 17) hx hb hts hi_3 hown hK hP 0 rfl rfl 1 (by decide) fl_82 (fun _ h9 => h9) rfl dX3_word_1 ?_
  refine lv_iconst (v := 1) hx hb dX3_word_4 (by decide) ?_
  refine lv_icmp_ne (tgt := 13) hx hb dX3_word_5 (by decide) (fun c => ?_) (fun c => ?_)
  · refine lv_aload_n hx hb dX3_word_13 rfl (lv_at hl 0 rfl) ?_
    refine va_get (D := D) (ci := 3) (v := .int 2) (C := RX3) (T := TX3) (N := 17) hx hb hts hi_3 hown hK hP 0 rfl rfl 1 (by decide) fl_82 (fun _ h9 => h9) rfl dX3_word_14 ?_
    refine lv_iconst (v := 2) hx hb dX3_word_17 (by decide) ?_
    refine lv_icmp_ne (tgt := 26) hx hb dX3_word_18 (by decide) (fun c => ?_) (fun c => ?_)
    · exact absurd rfl c
    · refine lv_bipush (v := 12) hx hb dX3_word_21 (by decide) ?_
      refine lv_goto (tgt := 27) hx hb dX3_word_23 (by decide) ?_
      refine lv_istore_n (lv' := [(2, .int 12), (0, .ref m0), (1, .int (nI j))]) hx hb dX3_word_27 rfl hl (by decide) rfl (fun ls hl => ?_)
      refine lv_aload_n hx hb dX3_word_28 rfl (lv_at hl 1 rfl) ?_
      refine va_get (D := D) (ci := 3) (v := .int 1) (C := RX3) (T := TX3) (N := 17) hx hb hts hi_3 hown hK hP 0 rfl rfl 2 (by decide) fl_86 (fun _ h9 => h9) rfl dX3_word_29 ?_
      refine lv_if_eq (tgt := 44) hx hb dX3_word_32 (by decide) (fun c => ?_) (fun c => ?_)
      · exact absurd c (by decide)
      · refine lv_iload_n hx hb dX3_word_35 rfl (lv_at hl 2 rfl) ?_
        refine lv_if_lt (tgt := 44) hx hb dX3_word_36 (by decide) (fun c => ?_) (fun c => ?_)
        · exact absurd c (nI_pos (by omega))
        · refine lv_iload_n hx hb dX3_word_39 rfl (lv_at hl 2 rfl) ?_
          refine lv_iload_n hx hb dX3_word_40 rfl (lv_at hl 0 rfl) ?_
          refine lv_icmp_lt (tgt := 46) hx hb dX3_word_41 (by decide) (fun c => ?_) (fun c => ?_)
          · refine lv_iload_n hx hb dX3_word_46 rfl (lv_at hl 2 rfl) ?_
            refine lv_iconst (v := 2) hx hb dX3_word_47 (by decide) ?_
            refine xk_iremN hx hb j 2 (j % 2) rfl rfl (by omega) (by decide) (by decide) (by omega) dX3_word_48 ?_
            refine lv_if_ne (tgt := 66) hx hb dX3_word_49 (by decide) (fun c1 => ?_) (fun c1 => ?_)
            · have c2 : ¬ j % 2 = 0 := fun h => c1 (by rw [h]; rfl)
              refine lv_aload_n hx hb dX3_word_66 rfl (lv_at hl 1 rfl) ?_
              refine va_get (D := D) (ci := 3) (v := .ref m3) (C := RX3) (T := TX3) (N := 17) hx hb hts hi_3 hown hK hP 0 rfl rfl 9 (by decide) fl_16 (fun _ h9 => h9) rfl dX3_word_67 ?_
              refine lv_iload_n hx hb dX3_word_70 rfl (lv_at hl 2 rfl) ?_
              refine lv_iconst (v := 2) hx hb dX3_word_71 (by decide) ?_
              refine xk_idivN hx hb j 2 (j / 2) rfl rfl (by omega) (by decide) (by decide) (by omega) dX3_word_72 ?_
              refine xk_lald hx hb hK hP 1 1 rfl rfl (j / 2) rfl (by omega) (by decide) dX3_word_73 ?_
              refine lv_l2i (v := (Int64.toInt32 (st (j / 2)))) hx hb dX3_word_74 rfl ?_
              exact ret _ _ _ _ _ (if_neg c2).symm hP hD hS dX3_word_75
            · have c2 : j % 2 = 0 := (nI_eq (by omega) (by omega)).mp c1
              refine lv_aload_n hx hb dX3_word_52 rfl (lv_at hl 1 rfl) ?_
              refine va_get (D := D) (ci := 3) (v := .ref m3) (C := RX3) (T := TX3) (N := 17) hx hb hts hi_3 hown hK hP 0 rfl rfl 9 (by decide) fl_16 (fun _ h9 => h9) rfl dX3_word_53 ?_
              refine lv_iload_n hx hb dX3_word_56 rfl (lv_at hl 2 rfl) ?_
              refine lv_iconst (v := 2) hx hb dX3_word_57 (by decide) ?_
              refine xk_idivN hx hb j 2 (j / 2) rfl rfl (by omega) (by decide) (by decide) (by omega) dX3_word_58 ?_
              refine xk_lald hx hb hK hP 1 1 rfl rfl (j / 2) rfl (by omega) (by decide) dX3_word_59 ?_
              refine lv_bipush (v := 32) hx hb dX3_word_60 (by decide) ?_
              refine lv_lshr (v := (xm_r (st (j / 2)) 32)) hx hb dX3_word_62 rfl ?_
              refine lv_goto (tgt := 74) hx hb dX3_word_63 (by decide) ?_
              refine lv_l2i (v := (Int64.toInt32 (xm_r (st (j / 2)) 32))) hx hb dX3_word_74 rfl ?_
              exact ret _ _ _ _ _ (if_pos c2).symm hP hD hS dX3_word_75
          · exact absurd (nI_lt (a := j) (b := 12) (by omega) (by omega)) c
  · exact absurd c (by decide)
abbrev rm_X3_word_3 : Room := { frames := 0, cells := 0, slots := 0, locals := 0 }
set_option maxHeartbeats 4000000 in
set_option maxRecDepth 100000 in
theorem c_X3_word_3 (l : Launch) (D : va_G) (cI cL : ClassId) (sz : Nat) (m0 : Nat) (m1 : Nat) (m2 : Nat) (m3 : Nat) (m4 : Nat) (m5 : Nat) (m6 : Nat) (m7 : Nat) (m8 : Nat) (m9 : Nat) (m10 : Nat) (rd : Int32) (ln : Int32) (pp : Int64) (qq : Int64) (hd : Int32) (st : Nat → Int64) (j : Nat) (hj : j < 2) : xk_I l yX3_word wsX3_word rm_X3_word_3 xk_0 D classes [(cI, .int), (cL, .long)] [.ref m0, .int (nI j)] [(m0, .inr (3, [.int rd, .int 3, .int 1, .int ln, .ref m1, .long pp, .long qq, .ref m2, .int hd, .ref m3, .ref m4, .ref m5, .ref m6, .ref m7, .ref m8, .ref m9, .ref m10])), (m3, .inl (cL, 8, .inr (.inl st)))] [(m0, .inr (3, [.int rd, .int 3, .int 1, .int ln, .ref m1, .long pp, .long qq, .ref m2, .int hd, .ref m3, .ref m4, .ref m5, .ref m6, .ref m7, .ref m8, .ref m9, .ref m10])), (m3, .inl (cL, 8, .inr (.inl st)))] (mo_word st j) sz := by
  refine xk_entI (cc := cX3_word) (maxL := 3) (by decide) rfl (Nat.le_of_ble_eq_true rfl) ?_
  intro p e s m args below meth co Q A ls hx hb hml hts hown hA hK hP hD hS hX ret hl
  have hl : lv_has ls 3 [(0, .ref m0), (1, .int (nI j))] := hl
  have hi_3 : ∀ w ∈ u_ws RX3 TX3 17, w ∈ wsX3_word := by decide +kernel
  have fl_82 := hts (.fieldLink RX3 82 "WideHashModel" "mode" "I") (by decide +kernel)
  have fl_86 := hts (.fieldLink RX3 86 "WideHashModel" "closed" "Z") (by decide +kernel)
  have fl_16 := hts (.fieldLink RX3 16 "WideHashModel" "state" "[J") (by decide +kernel)
  refine lv_aload_n hx hb dX3_word_0 rfl (lv_at hl 0 rfl) ?_
  refine va_get (D := D) (ci := 3) (v := .int 3) (C := RX3) (T := TX3) (N := 17) hx hb hts hi_3 hown hK hP 0 rfl rfl 1 (by decide) fl_82 (fun _ h9 => h9) rfl dX3_word_1 ?_
  refine lv_iconst (v := 1) hx hb dX3_word_4 (by decide) ?_
  refine lv_icmp_ne (tgt := 13) hx hb dX3_word_5 (by decide) (fun c => ?_) (fun c => ?_)
  · refine lv_aload_n hx hb dX3_word_13 rfl (lv_at hl 0 rfl) ?_
    refine va_get (D := D) (ci := 3) (v := .int 3) (C := RX3) (T := TX3) (N := 17) hx hb hts hi_3 hown hK hP 0 rfl rfl 1 (by decide) fl_82 (fun _ h9 => h9) rfl dX3_word_14 ?_
    refine lv_iconst (v := 2) hx hb dX3_word_17 (by decide) ?_
    refine lv_icmp_ne (tgt := 26) hx hb dX3_word_18 (by decide) (fun c => ?_) (fun c => ?_)
    · refine lv_iconst (v := 2) hx hb dX3_word_26 (by decide) ?_
      refine lv_istore_n (lv' := [(2, .int 2), (0, .ref m0), (1, .int (nI j))]) hx hb dX3_word_27 rfl hl (by decide) rfl (fun ls hl => ?_)
      refine lv_aload_n hx hb dX3_word_28 rfl (lv_at hl 1 rfl) ?_
      refine va_get (D := D) (ci := 3) (v := .int 1) (C := RX3) (T := TX3) (N := 17) hx hb hts hi_3 hown hK hP 0 rfl rfl 2 (by decide) fl_86 (fun _ h9 => h9) rfl dX3_word_29 ?_
      refine lv_if_eq (tgt := 44) hx hb dX3_word_32 (by decide) (fun c => ?_) (fun c => ?_)
      · exact absurd c (by decide)
      · refine lv_iload_n hx hb dX3_word_35 rfl (lv_at hl 2 rfl) ?_
        refine lv_if_lt (tgt := 44) hx hb dX3_word_36 (by decide) (fun c => ?_) (fun c => ?_)
        · exact absurd c (nI_pos (by omega))
        · refine lv_iload_n hx hb dX3_word_39 rfl (lv_at hl 2 rfl) ?_
          refine lv_iload_n hx hb dX3_word_40 rfl (lv_at hl 0 rfl) ?_
          refine lv_icmp_lt (tgt := 46) hx hb dX3_word_41 (by decide) (fun c => ?_) (fun c => ?_)
          · refine lv_iload_n hx hb dX3_word_46 rfl (lv_at hl 2 rfl) ?_
            refine lv_iconst (v := 2) hx hb dX3_word_47 (by decide) ?_
            refine xk_iremN hx hb j 2 (j % 2) rfl rfl (by omega) (by decide) (by decide) (by omega) dX3_word_48 ?_
            refine lv_if_ne (tgt := 66) hx hb dX3_word_49 (by decide) (fun c1 => ?_) (fun c1 => ?_)
            · have c2 : ¬ j % 2 = 0 := fun h => c1 (by rw [h]; rfl)
              refine lv_aload_n hx hb dX3_word_66 rfl (lv_at hl 1 rfl) ?_
              refine va_get (D := D) (ci := 3) (v := .ref m3) (C := RX3) (T := TX3) (N := 17) hx hb hts hi_3 hown hK hP 0 rfl rfl 9 (by decide) fl_16 (fun _ h9 => h9) rfl dX3_word_67 ?_
              refine lv_iload_n hx hb dX3_word_70 rfl (lv_at hl 2 rfl) ?_
              refine lv_iconst (v := 2) hx hb dX3_word_71 (by decide) ?_
              refine xk_idivN hx hb j 2 (j / 2) rfl rfl (by omega) (by decide) (by decide) (by omega) dX3_word_72 ?_
              refine xk_lald hx hb hK hP 1 1 rfl rfl (j / 2) rfl (by omega) (by decide) dX3_word_73 ?_
              refine lv_l2i (v := (Int64.toInt32 (st (j / 2)))) hx hb dX3_word_74 rfl ?_
              exact ret _ _ _ _ _ (if_neg c2).symm hP hD hS dX3_word_75
            · have c2 : j % 2 = 0 := (nI_eq (by omega) (by omega)).mp c1
              refine lv_aload_n hx hb dX3_word_52 rfl (lv_at hl 1 rfl) ?_
              refine va_get (D := D) (ci := 3) (v := .ref m3) (C := RX3) (T := TX3) (N := 17) hx hb hts hi_3 hown hK hP 0 rfl rfl 9 (by decide) fl_16 (fun _ h9 => h9) rfl dX3_word_53 ?_
              refine lv_iload_n hx hb dX3_word_56 rfl (lv_at hl 2 rfl) ?_
              refine lv_iconst (v := 2) hx hb dX3_word_57 (by decide) ?_
              refine xk_idivN hx hb j 2 (j / 2) rfl rfl (by omega) (by decide) (by decide) (by omega) dX3_word_58 ?_
              refine xk_lald hx hb hK hP 1 1 rfl rfl (j / 2) rfl (by omega) (by decide) dX3_word_59 ?_
              refine lv_bipush (v := 32) hx hb dX3_word_60 (by decide) ?_
              refine lv_lshr (v := (xm_r (st (j / 2)) 32)) hx hb dX3_word_62 rfl ?_
              refine lv_goto (tgt := 74) hx hb dX3_word_63 (by decide) ?_
              refine lv_l2i (v := (Int64.toInt32 (xm_r (st (j / 2)) 32))) hx hb dX3_word_74 rfl ?_
              exact ret _ _ _ _ _ (if_pos c2).symm hP hD hS dX3_word_75
          · exact absurd (nI_lt (a := j) (b := 2) (by omega) (by omega)) c
    · exact absurd c (by decide)
  · exact absurd c (by decide)
