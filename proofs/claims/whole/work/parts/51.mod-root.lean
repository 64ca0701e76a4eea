abbrev rm_X3_isBelow_0 : Room := { frames := 1, cells := 0, slots := 0, locals := 30 }
set_option maxHeartbeats 4000000 in
set_option maxRecDepth 100000 in
theorem c_X3_isBelow_0 (l : Launch) (D : va_G) (cI cL : ClassId) (sz : Nat) (m0 : Nat) (m1 : Nat) (m2 : Nat) (m3 : Nat) (m4 : Nat) (m5 : Nat) (m6 : Nat) (m7 : Nat) (m8 : Nat) (m9 : Nat) (m10 : Nat) (rd : Int32) (md : Int32) (cd : Int32) (ln : Int32) (pp : Int64) (qq : Int64) (hd : Int32) (s2 : Nat → Int64) (s3 : Nat → Int64) (x : Nat) (pq : Nat) (hx5 : x < 65536 ^ 5) (hp : pq < 1000) : xk_I l yX3_isBelow wsX3_isBelow rm_X3_isBelow_0 xk_0 D classes [(cI, .int), (cL, .long)] [.ref m0, .int (nI pq), .int 0] [(m0, .inr (3, [.int rd, .int md, .int cd, .int ln, .ref m1, .long pp, .long qq, .ref m2, .int hd, .ref m3, .ref m4, .ref m5, .ref m6, .ref m7, .ref m8, .ref m9, .ref m10])), (m8, .inl (cL, 5, .inr (.inl (mo_D x)))), (m9, .inl (cL, 10, .inr (.inl s2))), (m10, .inl (cL, 15, .inr (.inl s3)))] [(m0, .inr (3, [.int rd, .int md, .int cd, .int ln, .ref m1, .long pp, .long qq, .ref m2, .int hd, .ref m3, .ref m4, .ref m5, .ref m6, .ref m7, .ref m8, .ref m9, .ref m10])), (m8, .inl (cL, 5, .inr (.inl (mo_D x)))), (m9, .inl (cL, 10, .inr (.inl (mo_D (x * x))))), (m10, .inl (cL, 15, .inr (.inl s3)))] (xb_I (decide (x * x / 65536 ^ 8 < pq))) sz := by
  refine xk_entZ (cc := cX3_isBelow) (maxL := 3) (by decide) rfl (Nat.le_of_ble_eq_true rfl) (by unfold xb_I; split <;> simp) ?_
  intro p e s m args below meth co Q A ls hx hb hml hts hown hA hK hP hD hS hX ret hl
  have hl : lv_has ls 3 [(0, .ref m0), (1, .int (nI pq)), (2, .int 0)] := hl
  have hi_3 : ∀ w ∈ u_ws RX3 TX3 17, w ∈ wsX3_isBelow := by decide +kernel
  have fl_32 := hts (.fieldLink RX3 32 "WideHashModel" "root" "[J") (by decide +kernel)
  have fl_35 := hts (.fieldLink RX3 35 "WideHashModel" "square" "[J") (by decide +kernel)
  have fl_38 := hts (.fieldLink RX3 38 "WideHashModel" "cube" "[J") (by decide +kernel)
  have h2 : x * x < 65536 ^ 10 := Nat.lt_of_lt_of_le (Nat.mul_lt_mul_of_lt_of_lt hx5 hx5) (by decide)
  have hq : x * x / 65536 ^ 8 < 65536 ^ 2 := Nat.div_lt_of_lt_mul (by rw [← Nat.pow_add]; exact h2)
  refine lv_aload_n hx hb dX3_isBelow_0 rfl (lv_at hl 0 rfl) ?_
  refine va_get (D := D) (ci := 3) (v := .ref m8) (C := RX3) (T := TX3) (N := 17) hx hb hts hi_3 hown hK hP 0 rfl rfl 14 (by decide) fl_32 (fun _ h9 => h9) rfl dX3_isBelow_1 ?_
  refine lv_iconst (v := 5) hx hb dX3_isBelow_4 (by decide) ?_
  refine lv_aload_n hx hb dX3_isBelow_5 rfl (lv_at hl 0 rfl) ?_
  refine va_get (D := D) (ci := 3) (v := .ref m8) (C := RX3) (T := TX3) (N := 17) hx hb hts hi_3 hown hK hP 0 rfl rfl 14 (by decide) fl_32 (fun _ h9 => h9) rfl dX3_isBelow_6 ?_
  refine lv_iconst (v := 5) hx hb dX3_isBelow_9 (by decide) ?_
  refine lv_aload_n hx hb dX3_isBelow_10 rfl (lv_at hl 0 rfl) ?_
  refine va_get (D := D) (ci := 3) (v := .ref m9) (C := RX3) (T := TX3) (N := 17) hx hb hts hi_3 hown hK hP 0 rfl rfl 15 (by decide) fl_35 (fun _ h9 => h9) rfl dX3_isBelow_11 ?_
  refine xk_goV (wr := [(m0, .inr (3, [.int rd, .int md, .int cd, .int ln, .ref m1, .long pp, .long qq, .ref m2, .int hd, .ref m3, .ref m4, .ref m5, .ref m6, .ref m7, .ref m8, .ref m9, .ref m10])), (m10, .inl (cL, 15, .inr (.inl s3)))]) (w2 := [(m0, .inr (3, [.int rd, .int md, .int cd, .int ln, .ref m1, .long pp, .long qq, .ref m2, .int hd, .ref m3, .ref m4, .ref m5, .ref m6, .ref m7, .ref m8, .ref m9, .ref m10])), (m8, .inl (cL, 5, .inr (.inl (mo_D x)))), (m9, .inl (cL, 5 + 5, .inr (.inl (mo_D (x * x))))), (m10, .inl (cL, 15, .inr (.inl s3)))]) (va_runS (As := [.ref m8, .int 5, .ref m8, .int 5, .ref m9]) (rest := []) ⟨hx, hb, hml, hown, hts⟩ (c_X3_multiply_s l D cI cL s.heap.size m8 m9 5 x s2 (by decide) hx5) (va_cwS 5 hts gX3_isBelow_X3_multiply rfl rfl rfl (by decide +kernel) ⟨Nat.le_of_ble_eq_true rfl, Nat.le_of_ble_eq_true rfl⟩) ⟨xk_blind xk_0_ok, xk_at xk_0_ok trivial hP hD hK hS hA [1, 2] rfl (by decide) rfl⟩ rfl rfl hl.1 rfl (lv_room (Nat.le_of_ble_eq_true rfl)) dX3_isBelow_14 ⟨Nat.le_of_ble_eq_true rfl, Nat.le_of_ble_eq_true rfl⟩) hP hD hS hA [1, 2] [0, 3] [0, 2, 3, 1] rfl rfl (by decide) (by decide) rfl (by decide) rfl (fun H locs hP hD hS => ?_)
  refine lv_iload_n hx hb dX3_isBelow_17 rfl (lv_at hl 2 rfl) ?_
  refine lv_if_ne (tgt := 51) hx hb dX3_isBelow_18 (by decide) (fun c => ?_) (fun c => ?_)
  · exact absurd rfl c
  · refine lv_aload_n hx hb dX3_isBelow_21 rfl (lv_at hl 0 rfl) ?_
    refine va_get (D := D) (ci := 3) (v := .ref m9) (C := RX3) (T := TX3) (N := 17) hx hb hts hi_3 hown hK hP 0 rfl rfl 15 (by decide) fl_35 (fun _ h9 => h9) rfl dX3_isBelow_22 ?_
    refine lv_bipush (v := 8) hx hb dX3_isBelow_25 (by decide) ?_
    refine xk_lald hx hb hK hP 2 1 rfl rfl 8 rfl (by omega) (by omega) dX3_isBelow_27 ?_
    refine lv_aload_n hx hb dX3_isBelow_28 rfl (lv_at hl 0 rfl) ?_
    refine va_get (D := D) (ci := 3) (v := .ref m9) (C := RX3) (T := TX3) (N := 17) hx hb hts hi_3 hown hK hP 0 rfl rfl 15 (by decide) fl_35 (fun _ h9 => h9) rfl dX3_isBelow_29 ?_
    refine lv_bipush (v := 9) hx hb dX3_isBelow_32 (by decide) ?_
    refine xk_lald hx hb hK hP 2 1 rfl rfl 9 rfl (by omega) (by omega) dX3_isBelow_34 ?_
    refine lv_bipush (v := 16) hx hb dX3_isBelow_35 (by decide) ?_
    refine lv_lshl (v := (xm_l ((mo_D (x * x)) 9) 16)) hx hb dX3_isBelow_37 rfl ?_
    refine lv_ladd hx hb dX3_isBelow_38 ?_
    refine xk_asl (lN (x * x / 65536 ^ 8)) (dig_2 _ h2) ?_
    refine lv_iload_n hx hb dX3_isBelow_39 rfl (lv_at hl 1 rfl) ?_
    refine lv_i2l (v := (Int32.toInt64 (nI pq))) hx hb dX3_isBelow_40 rfl ?_
    refine xk_asl (lN pq) (nI_l (by omega)) ?_
    refine W.lcmp hx hb dX3_isBelow_41 ?_
    refine lv_if_ge (tgt := 49) hx hb dX3_isBelow_42 (by decide) (fun c1 => ?_) (fun c1 => ?_)
    · have c2 : ¬ x * x / 65536 ^ 8 < pq := Nat.not_lt.mpr ((pk_lLE (by omega) (by omega)).mp ((lg_cmp_ge _ _).mp c1))
      refine lv_iconst (v := 0) hx hb dX3_isBelow_49 (by decide) ?_
      exact ret _ _ _ _ _ (by rw [decide_eq_false c2]; rfl) hP hD hS dX3_isBelow_50
    · have c2 : x * x / 65536 ^ 8 < pq := Nat.not_le.mp (fun h => c1 ((lg_cmp_ge _ _).mpr ((pk_lLE (by omega) (by omega)).mpr h)))
      refine lv_iconst (v := 1) hx hb dX3_isBelow_45 (by decide) ?_
      refine lv_goto (tgt := 50) hx hb dX3_isBelow_46 (by decide) ?_
      exact ret _ _ _ _ _ (by rw [decide_eq_true c2]; rfl) hP hD hS dX3_isBelow_50
abbrev rm_X3_isBelow_1 : Room := { frames := 1, cells := 0, slots := 0, locals := 30 }
set_option maxHeartbeats 4000000 in
set_option maxRecDepth 100000 in
theorem c_X3_isBelow_1 (l : Launch) (D : va_G) (cI cL : ClassId) (sz : Nat) (m0 : Nat) (m1 : Nat) (m2 : Nat) (m3 : Nat) (m4 : Nat) (m5 : Nat) (m6 : Nat) (m7 : Nat) (m8 : Nat) (m9 : Nat) (m10 : Nat) (rd : Int32) (md : Int32) (cd : Int32) (ln : Int32) (pp : Int64) (qq : Int64) (hd : Int32) (s2 : Nat → Int64) (s3 : Nat → Int64) (x : Nat) (pq : Nat) (hx5 : x < 65536 ^ 5) (hp : pq < 1000) : xk_I l yX3_isBelow wsX3_isBelow rm_X3_isBelow_1 xk_0 D classes [(cI, .int), (cL, .long)] [.ref m0, .int (nI pq), .int 1] [(m0, .inr (3, [.int rd, .int md, .int cd, .int ln, .ref m1, .long pp, .long qq, .ref m2, .int hd, .ref m3, .ref m4, .ref m5, .ref m6, .ref m7, .ref m8, .ref m9, .ref m10])), (m8, .inl (cL, 5, .inr (.inl (mo_D x)))), (m9, .inl (cL, 10, .inr (.inl s2))), (m10, .inl (cL, 15, .inr (.inl s3)))] [(m0, .inr (3, [.int rd, .int md, .int cd, .int ln, .ref m1, .long pp, .long qq, .ref m2, .int hd, .ref m3, .ref m4, .ref m5, .ref m6, .ref m7, .ref m8, .ref m9, .ref m10])), (m8, .inl (cL, 5, .inr (.inl (mo_D x)))), (m9, .inl (cL, 10, .inr (.inl (mo_D (x * x))))), (m10, .inl (cL, 15, .inr (.inl (mo_D (x * x * x)))))] (xb_I (decide (x * x * x / 65536 ^ 12 < pq))) sz := by
  refine xk_entZ (cc := cX3_isBelow) (maxL := 3) (by decide) rfl (Nat.le_of_ble_eq_true rfl) (by unfold xb_I; split <;> simp) ?_
  intro p e s m args below meth co Q A ls hx hb hml hts hown hA hK hP hD hS hX ret hl
  have hl : lv_has ls 3 [(0, .ref m0), (1, .int (nI pq)), (2, .int 1)] := hl
  have hi_3 : ∀ w ∈ u_ws RX3 TX3 17, w ∈ wsX3_isBelow := by decide +kernel
  have fl_32 := hts (.fieldLink RX3 32 "WideHashModel" "root" "[J") (by decide +kernel)
  have fl_35 := hts (.fieldLink RX3 35 "WideHashModel" "square" "[J") (by decide +kernel)
  have fl_38 := hts (.fieldLink RX3 38 "WideHashModel" "cube" "[J") (by decide +kernel)
  have h2 : x * x < 65536 ^ 10 := Nat.lt_of_lt_of_le (Nat.mul_lt_mul_of_lt_of_lt hx5 hx5) (by decide)
  have h3 : x * x * x < 65536 ^ 15 := Nat.lt_of_lt_of_le (Nat.mul_lt_mul_of_lt_of_lt h2 hx5) (by decide)
  have hq : x * x * x / 65536 ^ 12 < 65536 ^ 3 := Nat.div_lt_of_lt_mul (by rw [← Nat.pow_add]; exact h3)
  refine lv_aload_n hx hb dX3_isBelow_0 rfl (lv_at hl 0 rfl) ?_
  refine va_get (D := D) (ci := 3) (v := .ref m8) (C := RX3) (T := TX3) (N := 17) hx hb hts hi_3 hown hK hP 0 rfl rfl 14 (by decide) fl_32 (fun _ h9 => h9) rfl dX3_isBelow_1 ?_
  refine lv_iconst (v := 5) hx hb dX3_isBelow_4 (by decide) ?_
  refine lv_aload_n hx hb dX3_isBelow_5 rfl (lv_at hl 0 rfl) ?_
  refine va_get (D := D) (ci := 3) (v := .ref m8) (C := RX3) (T := TX3) (N := 17) hx hb hts hi_3 hown hK hP 0 rfl rfl 14 (by decide) fl_32 (fun _ h9 => h9) rfl dX3_isBelow_6 ?_
  refine lv_iconst (v := 5) hx hb dX3_isBelow_9 (by decide) ?_
  refine lv_aload_n hx hb dX3_isBelow_10 rfl (lv_at hl 0 rfl) ?_
  refine va_get (D := D) (ci := 3) (v := .ref m9) (C := RX3) (T := TX3) (N := 17) hx hb hts hi_3 hown hK hP 0 rfl rfl 15 (by decide) fl_35 (fun _ h9 => h9) rfl dX3_isBelow_11 ?_
  refine xk_goV (wr := [(m0, .inr (3, [.int rd, .int md, .int cd, .int ln, .ref m1, .long pp, .long qq, .ref m2, .int hd, .ref m3, .ref m4, .ref m5, .ref m6, .ref m7, .ref m8, .ref m9, .ref m10])), (m10, .inl (cL, 15, .inr (.inl s3)))]) (w2 := [(m0, .inr (3, [.int rd, .int md, .int cd, .int ln, .ref m1, .long pp, .long qq, .ref m2, .int hd, .ref m3, .ref m4, .ref m5, .ref m6, .ref m7, .ref m8, .ref m9, .ref m10])), (m8, .inl (cL, 5, .inr (.inl (mo_D x)))), (m9, .inl (cL, 5 + 5, .inr (.inl (mo_D (x * x))))), (m10, .inl (cL, 15, .inr (.inl s3)))]) (va_runS (As := [.ref m8, .int 5, .ref m8, .int 5, .ref m9]) (rest := []) ⟨hx, hb, hml, hown, hts⟩ (c_X3_multiply_s l D cI cL s.heap.size m8 m9 5 x s2 (by decide) hx5) (va_cwS 5 hts gX3_isBelow_X3_multiply rfl rfl rfl (by decide +kernel) ⟨Nat.le_of_ble_eq_true rfl, Nat.le_of_ble_eq_true rfl⟩) ⟨xk_blind xk_0_ok, xk_at xk_0_ok trivial hP hD hK hS hA [1, 2] rfl (by decide) rfl⟩ rfl rfl hl.1 rfl (lv_room (Nat.le_of_ble_eq_true rfl)) dX3_isBelow_14 ⟨Nat.le_of_ble_eq_true rfl, Nat.le_of_ble_eq_true rfl⟩) hP hD hS hA [1, 2] [0, 3] [0, 2, 3, 1] rfl rfl (by decide) (by decide) rfl (by decide) rfl (fun H locs hP hD hS => ?_)
  refine lv_iload_n hx hb dX3_isBelow_17 rfl (lv_at hl 2 rfl) ?_
  refine lv_if_ne (tgt := 51) hx hb dX3_isBelow_18 (by decide) (fun c => ?_) (fun c => ?_)
  · refine lv_aload_n hx hb dX3_isBelow_51 rfl (lv_at hl 0 rfl) ?_
    refine va_get (D := D) (ci := 3) (v := .ref m9) (C := RX3) (T := TX3) (N := 17) hx hb hts hi_3 hown hK hP 0 rfl rfl 15 (by decide) fl_35 (fun _ h9 => h9) rfl dX3_isBelow_52 ?_
    refine lv_bipush (v := 10) hx hb dX3_isBelow_55 (by decide) ?_
    refine lv_aload_n hx hb dX3_isBelow_57 rfl (lv_at hl 0 rfl) ?_
    refine va_get (D := D) (ci := 3) (v := .ref m8) (C := RX3) (T := TX3) (N := 17) hx hb hts hi_3 hown hK hP 0 rfl rfl 14 (by decide) fl_32 (fun _ h9 => h9) rfl dX3_isBelow_58 ?_
    refine lv_iconst (v := 5) hx hb dX3_isBelow_61 (by decide) ?_
    refine lv_aload_n hx hb dX3_isBelow_62 rfl (lv_at hl 0 rfl) ?_
    refine va_get (D := D) (ci := 3) (v := .ref m10) (C := RX3) (T := TX3) (N := 17) hx hb hts hi_3 hown hK hP 0 rfl rfl 16 (by decide) fl_38 (fun _ h9 => h9) rfl dX3_isBelow_63 ?_
    refine xk_goV (wr := [(m0, .inr (3, [.int rd, .int md, .int cd, .int ln, .ref m1, .long pp, .long qq, .ref m2, .int hd, .ref m3, .ref m4, .ref m5, .ref m6, .ref m7, .ref m8, .ref m9, .ref m10]))]) (w2 := [(m0, .inr (3, [.int rd, .int md, .int cd, .int ln, .ref m1, .long pp, .long qq, .ref m2, .int hd, .ref m3, .ref m4, .ref m5, .ref m6, .ref m7, .ref m8, .ref m9, .ref m10])), (m8, .inl (cL, 5, .inr (.inl (mo_D x)))), (m9, .inl (cL, 10, .inr (.inl (mo_D (x * x))))), (m10, .inl (cL, 10 + 5, .inr (.inl (mo_D ((x * x) * x)))))]) (va_runS (As := [.ref m9, .int 10, .ref m8, .int 5, .ref m10]) (rest := []) ⟨hx, hb, hml, hown, hts⟩ (c_X3_multiply_d l D cI cL H.size m9 m8 m10 10 5 (x * x) x s3 (by decide) (by decide) h2 hx5) (va_cwS 5 hts gX3_isBelow_X3_multiply rfl rfl rfl (by decide +kernel) ⟨Nat.le_of_ble_eq_true rfl, Nat.le_of_ble_eq_true rfl⟩) ⟨xk_blind xk_0_ok, xk_at xk_0_ok trivial hP hD hK hS hA [2, 1, 3] rfl (by decide) rfl⟩ rfl rfl hl.1 rfl (lv_room (Nat.le_of_ble_eq_true rfl)) dX3_isBelow_66 ⟨Nat.le_of_ble_eq_true rfl, Nat.le_of_ble_eq_true rfl⟩) hP hD hS hA [2, 1, 3] [0] [0, 2, 1, 3] rfl rfl (by decide) (by decide) rfl (by decide) rfl (fun H locs hP hD hS => ?_)
    refine lv_aload_n hx hb dX3_isBelow_69 rfl (lv_at hl 0 rfl) ?_
    refine va_get (D := D) (ci := 3) (v := .ref m10) (C := RX3) (T := TX3) (N := 17) hx hb hts hi_3 hown hK hP 0 rfl rfl 16 (by decide) fl_38 (fun _ h9 => h9) rfl dX3_isBelow_70 ?_
    refine lv_bipush (v := 12) hx hb dX3_isBelow_73 (by decide) ?_
    refine xk_lald hx hb hK hP 3 1 rfl rfl 12 rfl (by omega) (by omega) dX3_isBelow_75 ?_
    refine lv_aload_n hx hb dX3_isBelow_76 rfl (lv_at hl 0 rfl) ?_
    refine va_get (D := D) (ci := 3) (v := .ref m10) (C := RX3) (T := TX3) (N := 17) hx hb hts hi_3 hown hK hP 0 rfl rfl 16 (by decide) fl_38 (fun _ h9 => h9) rfl dX3_isBelow_77 ?_
    refine lv_bipush (v := 13) hx hb dX3_isBelow_80 (by decide) ?_
    refine xk_lald hx hb hK hP 3 1 rfl rfl 13 rfl (by omega) (by omega) dX3_isBelow_82 ?_
    refine lv_bipush (v := 16) hx hb dX3_isBelow_83 (by decide) ?_
    refine lv_lshl (v := (xm_l ((mo_D ((x * x) * x)) 13) 16)) hx hb dX3_isBelow_85 rfl ?_
    refine lv_ladd hx hb dX3_isBelow_86 ?_
    refine lv_aload_n hx hb dX3_isBelow_87 rfl (lv_at hl 0 rfl) ?_
    refine va_get (D := D) (ci := 3) (v := .ref m10) (C := RX3) (T := TX3) (N := 17) hx hb hts hi_3 hown hK hP 0 rfl rfl 16 (by decide) fl_38 (fun _ h9 => h9) rfl dX3_isBelow_88 ?_
    refine lv_bipush (v := 14) hx hb dX3_isBelow_91 (by decide) ?_
    refine xk_lald hx hb hK hP 3 1 rfl rfl 14 rfl (by omega) (by omega) dX3_isBelow_93 ?_
    refine lv_bipush (v := 32) hx hb dX3_isBelow_94 (by decide) ?_
    refine lv_lshl (v := (xm_l ((mo_D ((x * x) * x)) 14) 32)) hx hb dX3_isBelow_96 rfl ?_
    refine lv_ladd hx hb dX3_isBelow_97 ?_
    refine xk_asl (lN (x * x * x / 65536 ^ 12)) (dig_3 _ h3) ?_
    refine lv_iload_n hx hb dX3_isBelow_98 rfl (lv_at hl 1 rfl) ?_
    refine lv_i2l (v := (Int32.toInt64 (nI pq))) hx hb dX3_isBelow_99 rfl ?_
    refine xk_asl (lN pq) (nI_l (by omega)) ?_
    refine W.lcmp hx hb dX3_isBelow_100 ?_
    refine lv_if_ge (tgt := 108) hx hb dX3_isBelow_101 (by decide) (fun c1 => ?_) (fun c1 => ?_)
    · have c2 : ¬ x * x * x / 65536 ^ 12 < pq := Nat.not_lt.mpr ((pk_lLE (by omega) (by omega)).mp ((lg_cmp_ge _ _).mp c1))
      refine lv_iconst (v := 0) hx hb dX3_isBelow_108 (by decide) ?_
      exact ret _ _ _ _ _ (by rw [decide_eq_false c2]; rfl) hP hD hS dX3_isBelow_109
    · have c2 : x * x * x / 65536 ^ 12 < pq := Nat.not_le.mp (fun h => c1 ((lg_cmp_ge _ _).mpr ((pk_lLE (by omega) (by omega)).mpr h)))
      refine lv_iconst (v := 1) hx hb dX3_isBelow_104 (by decide) ?_
      refine lv_goto (tgt := 109) hx hb dX3_isBelow_105 (by decide) ?_
      exact ret _ _ _ _ _ (by rw [decide_eq_true c2]; rfl) hP hD hS dX3_isBelow_109
  · exact absurd c (by decide)
abbrev rm_X3_rootOf_0 : Room := { frames := 2, cells := 0, slots := 0, locals := 52 }
set_option maxHeartbeats 4000000 in
set_option maxRecDepth 100000 in
theorem c_X3_rootOf_0 (l : Launch) (D : va_G) (cI cL : ClassId) (sz : Nat) (m0 : Nat) (m1 : Nat) (m2 : Nat) (m3 : Nat) (m4 : Nat) (m5 : Nat) (m6 : Nat) (m7 : Nat) (m8 : Nat) (m9 : Nat) (m10 : Nat) (rd : Int32) (md : Int32) (cd : Int32) (ln : Int32) (pp : Int64) (qq : Int64) (hd : Int32) (rt : Nat → Int64) (s2 : Nat → Int64) (s3 : Nat → Int64) (pq : Nat) (hp : pq < 1000) : xk_L l yX3_rootOf wsX3_rootOf rm_X3_rootOf_0 xk_0 D classes [(cI, .int), (cL, .long)] [.ref m0, .int (nI pq), .int 0] [(m0, .inr (3, [.int rd, .int md, .int cd, .int ln, .ref m1, .long pp, .long qq, .ref m2, .int hd, .ref m3, .ref m4, .ref m5, .ref m6, .ref m7, .ref m8, .ref m9, .ref m10])), (m8, .inl (cL, 5, .inr (.inl rt))), (m9, .inl (cL, 10, .inr (.inl s2))), (m10, .inl (cL, 15, .inr (.inl s3)))] [(m0, .inr (3, [.int rd, .int md, .int cd, .int ln, .ref m1, .long pp, .long qq, .ref m2, .int hd, .ref m3, .ref m4, .ref m5, .ref m6, .ref m7, .ref m8, .ref m9, .ref m10])), (m8, .inl (cL, 5, .inr (.inl (mo_D (mo_rs (mo_b0 pq) 70))))), (m9, .inl (cL, 10, .inr (.inl (mo_k2 (mo_b0 pq) s2 70)))), (m10, .inl (cL, 15, .inr (.inl s3)))] (lN (mo_rs (mo_b0 pq) 70 % 2 ^ 64)) sz := by
  refine xk_entL (cc := cX3_rootOf) (maxL := 4) (by decide) rfl (Nat.le_of_ble_eq_true rfl) ?_
  intro p e s m args below meth co Q A ls hx hb hml hts hown hA hK hP hD hS hX ret hl
  have hl : lv_has ls 4 [(0, .ref m0), (1, .int (nI pq)), (2, .int 0)] := hl
  have hi_3 : ∀ w ∈ u_ws RX3 TX3 17, w ∈ wsX3_rootOf := by decide +kernel
  have fl_32 := hts (.fieldLink RX3 32 "WideHashModel" "root" "[J") (by decide +kernel)
  refine lv_iconst (v := 0) hx hb dX3_rootOf_0 (by decide) ?_
  refine lv_istore_n (lv' := [(3, .int 0), (0, .ref m0), (1, .int (nI pq)), (2, .int 0)]) hx hb dX3_rootOf_1 rfl hl (by decide) rfl (fun ls hl => ?_)
  have loopZ : ∀ (d : Nat) (k : Nat), (hk : k + d = 5) → ∀ (H : Heap) (locs : List Loc) (ls : Array Slot), va_P D classes [(m0, .inr (3, [.int rd, .int md, .int cd, .int ln, .ref m1, .long pp, .long qq, .ref m2, .int hd, .ref m3, .ref m4, .ref m5, .ref m6, .ref m7, .ref m8, .ref m9, .ref m10])), (m8, .inl (cL, 5, .inr (.inl (mo_z rt k)))), (m9, .inl (cL, 10, .inr (.inl s2))), (m10, .inl (cL, 15, .inr (.inl s3)))] H → va_D A [(m0, .inr (3, [.int rd, .int md, .int cd, .int ln, .ref m1, .long pp, .long qq, .ref m2, .int hd, .ref m3, .ref m4, .ref m5, .ref m6, .ref m7, .ref m8, .ref m9, .ref m10])), (m8, .inl (cL, 5, .inr (.inl (mo_z rt k)))), (m9, .inl (cL, 10, .inr (.inl s2))), (m10, .inl (cL, 15, .inr (.inl s3)))] → va_S A s.heap H locs → lv_has ls 4 [(0, .ref m0), (1, .int (nI pq)), (2, .int 0), (3, .int (nI k))] → W p l e rm_X3_rootOf_0 s m args below meth co H locs 0 0 Q (F0 m 2 ls []) := by
    intro d
    induction d with
    | zero =>
      intro k hk H locs ls hP hD hS hl
      obtain rfl : k = 5 := by omega
      refine lv_iload_n hx hb dX3_rootOf_2 rfl (lv_at hl 3 rfl) ?_
      refine lv_iconst (v := 5) hx hb dX3_rootOf_3 (by decide) ?_
      refine lv_icmp_ge (tgt := 20) hx hb dX3_rootOf_4 (by decide) (fun c => ?_) (fun c => ?_)
      · have hP := xk_congL hP 1 rfl (g := mo_D (mo_rs (mo_b0 pq) 0)) (fun j hj => by rw [mo_z_at rt 5 j hj]; show 0 = lN (0 / 65536 ^ j % 65536); rw [Nat.zero_div]; rfl)
        have hD := va_D.set (p := 1) (e := .inl (cL, 5, .inr (.inl (mo_D (mo_rs (mo_b0 pq) 0))))) hD rfl
        have hP : va_P D classes [(m0, .inr (3, [.int rd, .int md, .int cd, .int ln, .ref m1, .long pp, .long qq, .ref m2, .int hd, .ref m3, .ref m4, .ref m5, .ref m6, .ref m7, .ref m8, .ref m9, .ref m10])), (m8, .inl (cL, 5, .inr (.inl (mo_D (mo_rs (mo_b0 pq) 0))))), (m9, .inl (cL, 10, .inr (.inl s2))), (m10, .inl (cL, 15, .inr (.inl s3)))] H := hP
        have hD : va_D A [(m0, .inr (3, [.int rd, .int md, .int cd, .int ln, .ref m1, .long pp, .long qq, .ref m2, .int hd, .ref m3, .ref m4, .ref m5, .ref m6, .ref m7, .ref m8, .ref m9, .ref m10])), (m8, .inl (cL, 5, .inr (.inl (mo_D (mo_rs (mo_b0 pq) 0))))), (m9, .inl (cL, 10, .inr (.inl s2))), (m10, .inl (cL, 15, .inr (.inl s3)))] := hD
        refine lv_bipush (v := 69) hx hb dX3_rootOf_20 (by decide) ?_
        refine lv_istore_n (lv' := [(3, .int 69), (0, .ref m0), (1, .int (nI pq)), (2, .int 0)]) hx hb dX3_rootOf_22 rfl hl (by decide) rfl (fun ls hl => ?_)
        have loopA : ∀ (d : Nat) (n : Nat), (hn : n + d = 70) → ∀ (H : Heap) (locs : List Loc) (ls : Array Slot), va_P D classes [(m0, .inr (3, [.int rd, .int md, .int cd, .int ln, .ref m1, .long pp, .long qq, .ref m2, .int hd, .ref m3, .ref m4, .ref m5, .ref m6, .ref m7, .ref m8, .ref m9, .ref m10])), (m8, .inl (cL, 5, .inr (.inl (mo_D (mo_rs (mo_b0 pq) n))))), (m9, .inl (cL, 10, .inr (.inl (mo_k2 (mo_b0 pq) s2 n)))), (m10, .inl (cL, 15, .inr (.inl s3)))] H → va_D A [(m0, .inr (3, [.int rd, .int md, .int cd, .int ln, .ref m1, .long pp, .long qq, .ref m2, .int hd, .ref m3, .ref m4, .ref m5, .ref m6, .ref m7, .ref m8, .ref m9, .ref m10])), (m8, .inl (cL, 5, .inr (.inl (mo_D (mo_rs (mo_b0 pq) n))))), (m9, .inl (cL, 10, .inr (.inl (mo_k2 (mo_b0 pq) s2 n)))), (m10, .inl (cL, 15, .inr (.inl s3)))] → va_S A s.heap H locs → lv_has ls 4 [(0, .ref m0), (1, .int (nI pq)), (2, .int 0), (3, .int (xk_dv d))] → W p l e rm_X3_rootOf_0 s m args below meth co H locs 0 0 Q (F0 m 23 ls []) := by
          intro d
          induction d with
          | zero =>
            intro n hn H locs ls hP hD hS hl
            obtain rfl : n = 70 := by omega
            refine lv_iload_n hx hb dX3_rootOf_23 rfl (lv_at hl 3 rfl) ?_
            refine lv_if_lt (tgt := 78) hx hb dX3_rootOf_24 (by decide) (fun c => ?_) (fun c => ?_)
            · refine lv_aload_n hx hb dX3_rootOf_78 rfl (lv_at hl 0 rfl) ?_
              refine va_get (D := D) (ci := 3) (v := .ref m8) (C := RX3) (T := TX3) (N := 17) hx hb hts hi_3 hown hK hP 0 rfl rfl 14 (by decide) fl_32 (fun _ h9 => h9) rfl dX3_rootOf_79 ?_
              refine lv_iconst (v := 3) hx hb dX3_rootOf_82 (by decide) ?_
              refine xk_lald hx hb hK hP 1 1 rfl rfl 3 rfl (by omega) (by decide) dX3_rootOf_83 ?_
              refine lv_bipush (v := 48) hx hb dX3_rootOf_84 (by decide) ?_
              refine lv_lshl (v := (xm_l ((mo_D (mo_rs (mo_b0 pq) 70)) 3) 48)) hx hb dX3_rootOf_86 rfl ?_
              refine lv_aload_n hx hb dX3_rootOf_87 rfl (lv_at hl 0 rfl) ?_
              refine va_get (D := D) (ci := 3) (v := .ref m8) (C := RX3) (T := TX3) (N := 17) hx hb hts hi_3 hown hK hP 0 rfl rfl 14 (by decide) fl_32 (fun _ h9 => h9) rfl dX3_rootOf_88 ?_
              refine lv_iconst (v := 2) hx hb dX3_rootOf_91 (by decide) ?_
              refine xk_lald hx hb hK hP 1 1 rfl rfl 2 rfl (by omega) (by decide) dX3_rootOf_92 ?_
              refine lv_bipush (v := 32) hx hb dX3_rootOf_93 (by decide) ?_
              refine lv_lshl (v := (xm_l ((mo_D (mo_rs (mo_b0 pq) 70)) 2) 32)) hx hb dX3_rootOf_95 rfl ?_
              refine lv_lor hx hb dX3_rootOf_96 ?_
              refine lv_aload_n hx hb dX3_rootOf_97 rfl (lv_at hl 0 rfl) ?_
              refine va_get (D := D) (ci := 3) (v := .ref m8) (C := RX3) (T := TX3) (N := 17) hx hb hts hi_3 hown hK hP 0 rfl rfl 14 (by decide) fl_32 (fun _ h9 => h9) rfl dX3_rootOf_98 ?_
              refine lv_iconst (v := 1) hx hb dX3_rootOf_101 (by decide) ?_
              refine xk_lald hx hb hK hP 1 1 rfl rfl 1 rfl (by omega) (by decide) dX3_rootOf_102 ?_
              refine lv_bipush (v := 16) hx hb dX3_rootOf_103 (by decide) ?_
              refine lv_lshl (v := (xm_l ((mo_D (mo_rs (mo_b0 pq) 70)) 1) 16)) hx hb dX3_rootOf_105 rfl ?_
              refine lv_lor hx hb dX3_rootOf_106 ?_
              refine lv_aload_n hx hb dX3_rootOf_107 rfl (lv_at hl 0 rfl) ?_
              refine va_get (D := D) (ci := 3) (v := .ref m8) (C := RX3) (T := TX3) (N := 17) hx hb hts hi_3 hown hK hP 0 rfl rfl 14 (by decide) fl_32 (fun _ h9 => h9) rfl dX3_rootOf_108 ?_
              refine lv_iconst (v := 0) hx hb dX3_rootOf_111 (by decide) ?_
              refine xk_lald hx hb hK hP 1 1 rfl rfl 0 rfl (by omega) (by decide) dX3_rootOf_112 ?_
              refine lv_lor hx hb dX3_rootOf_113 ?_
              refine xk_asl (lN (mo_rs (mo_b0 pq) 70 % 2 ^ 64)) (dig_4 _) ?_
              exact ret _ _ _ _ _ rfl hP hD hS dX3_rootOf_114
            · exact absurd (by decide) c
          | succ d ihloopA =>
            intro n hn H locs ls hP hD hS hl
            have hl : lv_has ls 4 [(0, .ref m0), (1, .int (nI pq)), (2, .int 0), (3, .int (nI (69 - n)))] := by rw [show 69 - n = d by omega]; exact hl
            obtain ⟨hr0, hr1, hr2⟩ := mo_rs_at (mo_b0 pq) n (by omega)
            refine lv_iload_n hx hb dX3_rootOf_23 rfl (lv_at hl 3 rfl) ?_
            refine lv_if_lt (tgt := 78) hx hb dX3_rootOf_24 (by decide) (fun c => ?_) (fun c => ?_)
            · exact absurd c (nI_pos (by omega))
            · refine lv_aload_n hx hb dX3_rootOf_27 rfl (lv_at hl 0 rfl) ?_
              refine va_get (D := D) (ci := 3) (v := .ref m8) (C := RX3) (T := TX3) (N := 17) hx hb hts hi_3 hown hK hP 0 rfl rfl 14 (by decide) fl_32 (fun _ h9 => h9) rfl dX3_rootOf_28 ?_
              refine lv_iload_n hx hb dX3_rootOf_31 rfl (lv_at hl 3 rfl) ?_
              refine lv_bipush (v := 16) hx hb dX3_rootOf_32 (by decide) ?_
              refine xk_idivN hx hb (69 - n) 16 ((69 - n) / 16) rfl rfl (by omega) (by decide) (by decide) (by omega) dX3_rootOf_34 ?_
              refine lv_dup2_11 hx hb dX3_rootOf_35 rfl rfl ?_
              refine xk_lald hx hb hK hP 1 1 rfl rfl ((69 - n) / 16) rfl (by omega) (by decide) dX3_rootOf_36 ?_
              refine lv_lconst (v := 1) hx hb dX3_rootOf_37 rfl ?_
              refine lv_iload_n hx hb dX3_rootOf_38 rfl (lv_at hl 3 rfl) ?_
              refine lv_bipush (v := 16) hx hb dX3_rootOf_39 (by decide) ?_
              refine xk_iremN hx hb (69 - n) 16 ((69 - n) % 16) rfl rfl (by omega) (by decide) (by decide) (by omega) dX3_rootOf_41 ?_
              refine lv_lshl (v := (xm_l 1 (nI ((69 - n) % 16)))) hx hb dX3_rootOf_42 rfl ?_
              refine lv_ladd hx hb dX3_rootOf_43 ?_
              refine xk_last hx hb hK hP hD hS 1 1 rfl rfl ((69 - n) / 16) rfl (by omega) (by decide) dX3_rootOf_44 (fun H locs hP hD hS => ?_)
              have hP : va_P D classes [(m0, .inr (3, [.int rd, .int md, .int cd, .int ln, .ref m1, .long pp, .long qq, .ref m2, .int hd, .ref m3, .ref m4, .ref m5, .ref m6, .ref m7, .ref m8, .ref m9, .ref m10])), (m8, .inl (cL, 5, .inr (.inl (vp_updL (mo_D (mo_rs (mo_b0 pq) n)) ((69 - n) / 16) (((mo_D (mo_rs (mo_b0 pq) n)) ((69 - n) / 16)) + (xm_l 1 (nI ((69 - n) % 16)))))))), (m9, .inl (cL, 10, .inr (.inl (mo_k2 (mo_b0 pq) s2 n)))), (m10, .inl (cL, 15, .inr (.inl s3)))] H := hP
              have hD : va_D A [(m0, .inr (3, [.int rd, .int md, .int cd, .int ln, .ref m1, .long pp, .long qq, .ref m2, .int hd, .ref m3, .ref m4, .ref m5, .ref m6, .ref m7, .ref m8, .ref m9, .ref m10])), (m8, .inl (cL, 5, .inr (.inl (vp_updL (mo_D (mo_rs (mo_b0 pq) n)) ((69 - n) / 16) (((mo_D (mo_rs (mo_b0 pq) n)) ((69 - n) / 16)) + (xm_l 1 (nI ((69 - n) % 16)))))))), (m9, .inl (cL, 10, .inr (.inl (mo_k2 (mo_b0 pq) s2 n)))), (m10, .inl (cL, 15, .inr (.inl s3)))] := hD
              generalize eL1 : vp_updL (mo_D (mo_rs (mo_b0 pq) n)) ((69 - n) / 16) (((mo_D (mo_rs (mo_b0 pq) n)) ((69 - n) / 16)) + (xm_l 1 (nI ((69 - n) % 16)))) = L1 at hP hD
              subst eL1
              have hP := xk_congL hP 1 rfl (g := mo_D ((mo_rs (mo_b0 pq) n) + 2 ^ (69 - n))) (bit_add (mo_rs (mo_b0 pq) n) (69 - n) hr0 (by omega) hr1)
              have hD := va_D.set (p := 1) (e := .inl (cL, 5, .inr (.inl (mo_D ((mo_rs (mo_b0 pq) n) + 2 ^ (69 - n)))))) hD rfl
              have hP : va_P D classes [(m0, .inr (3, [.int rd, .int md, .int cd, .int ln, .ref m1, .long pp, .long qq, .ref m2, .int hd, .ref m3, .ref m4, .ref m5, .ref m6, .ref m7, .ref m8, .ref m9, .ref m10])), (m8, .inl (cL, 5, .inr (.inl (mo_D ((mo_rs (mo_b0 pq) n) + 2 ^ (69 - n)))))), (m9, .inl (cL, 10, .inr (.inl (mo_k2 (mo_b0 pq) s2 n)))), (m10, .inl (cL, 15, .inr (.inl s3)))] H := hP
              have hD : va_D A [(m0, .inr (3, [.int rd, .int md, .int cd, .int ln, .ref m1, .long pp, .long qq, .ref m2, .int hd, .ref m3, .ref m4, .ref m5, .ref m6, .ref m7, .ref m8, .ref m9, .ref m10])), (m8, .inl (cL, 5, .inr (.inl (mo_D ((mo_rs (mo_b0 pq) n) + 2 ^ (69 - n)))))), (m9, .inl (cL, 10, .inr (.inl (mo_k2 (mo_b0 pq) s2 n)))), (m10, .inl (cL, 15, .inr (.inl s3)))] := hD
              refine lv_aload_n hx hb dX3_rootOf_45 rfl (lv_at hl 0 rfl) ?_
              refine lv_iload_n hx hb dX3_rootOf_46 rfl (lv_at hl 1 rfl) ?_
              refine lv_iload_n hx hb dX3_rootOf_47 rfl (lv_at hl 2 rfl) ?_
              refine xk_goI (r := (xb_I (decide (((mo_rs (mo_b0 pq) n) + 2 ^ (69 - n)) * ((mo_rs (mo_b0 pq) n) + 2 ^ (69 - n)) / 65536 ^ 8 < pq)))) (wr := []) (w2 := [(m0, .inr (3, [.int rd, .int md, .int cd, .int ln, .ref m1, .long pp, .long qq, .ref m2, .int hd, .ref m3, .ref m4, .ref m5, .ref m6, .ref m7, .ref m8, .ref m9, .ref m10])), (m8, .inl (cL, 5, .inr (.inl (mo_D ((mo_rs (mo_b0 pq) n) + 2 ^ (69 - n)))))), (m9, .inl (cL, 10, .inr (.inl (mo_D (((mo_rs (mo_b0 pq) n) + 2 ^ (69 - n)) * ((mo_rs (mo_b0 pq) n) + 2 ^ (69 - n))))))), (m10, .inl (cL, 15, .inr (.inl s3)))]) (va_runV (As := [.int (nI pq), .int 0]) (rest := []) ⟨hx, hb, hml, hown, hts⟩ (c_X3_isBelow_0 l D cI cL H.size m0 m1 m2 m3 m4 m5 m6 m7 m8 m9 m10 rd md cd ln pp qq hd (mo_k2 (mo_b0 pq) s2 n) s3 ((mo_rs (mo_b0 pq) n) + 2 ^ (69 - n)) pq hr2 hp) (cwV 2 hts gX3_rootOf_X3_isBelow rfl rfl rfl (by decide +kernel) ⟨Nat.le_of_ble_eq_true rfl, Nat.le_of_ble_eq_true rfl⟩) ⟨xk_blind xk_0_ok, va_recv hK hP (ci := 3) (q0 := 0) rfl rfl, xk_at xk_0_ok trivial hP hD hK hS hA [0, 1, 2, 3] rfl (by decide) rfl⟩ rfl rfl hl.1 rfl (lv_room (Nat.le_of_ble_eq_true rfl)) dX3_rootOf_48 ⟨Nat.le_of_ble_eq_true rfl, Nat.le_of_ble_eq_true rfl⟩) hP hD hS hA [0, 1, 2, 3] [] [0, 1, 2, 3] rfl rfl (by decide) (by decide) rfl (by decide) rfl (fun H locs hP hD hS => ?_)
              refine lv_if_ne (tgt := 72) hx hb dX3_rootOf_51 (by decide) (fun c1 => ?_) (fun c1 => ?_)
              · have c2 : mo_b0 pq ((mo_rs (mo_b0 pq) n) + 2 ^ (69 - n)) = true := by cases hb : mo_b0 pq ((mo_rs (mo_b0 pq) n) + 2 ^ (69 - n)) with | true => rfl | false => exact absurd (by show xb_I (mo_b0 pq ((mo_rs (mo_b0 pq) n) + 2 ^ (69 - n))) = 0; rw [hb]; rfl) c1
                have hP := xk_congL hP 1 rfl (g := mo_D (mo_rs (mo_b0 pq) (n + 1))) (fun j _ => by rw [show mo_rs (mo_b0 pq) (n + 1) = _ from if_pos c2])
                have hD := va_D.set (p := 1) (e := .inl (cL, 5, .inr (.inl (mo_D (mo_rs (mo_b0 pq) (n + 1)))))) hD rfl
                have hP : va_P D classes [(m0, .inr (3, [.int rd, .int md, .int cd, .int ln, .ref m1, .long pp, .long qq, .ref m2, .int hd, .ref m3, .ref m4, .ref m5, .ref m6, .ref m7, .ref m8, .ref m9, .ref m10])), (m8, .inl (cL, 5, .inr (.inl (mo_D (mo_rs (mo_b0 pq) (n + 1)))))), (m9, .inl (cL, 10, .inr (.inl (mo_D (((mo_rs (mo_b0 pq) n) + 2 ^ (69 - n)) * ((mo_rs (mo_b0 pq) n) + 2 ^ (69 - n))))))), (m10, .inl (cL, 15, .inr (.inl s3)))] H := hP
                have hD : va_D A [(m0, .inr (3, [.int rd, .int md, .int cd, .int ln, .ref m1, .long pp, .long qq, .ref m2, .int hd, .ref m3, .ref m4, .ref m5, .ref m6, .ref m7, .ref m8, .ref m9, .ref m10])), (m8, .inl (cL, 5, .inr (.inl (mo_D (mo_rs (mo_b0 pq) (n + 1)))))), (m9, .inl (cL, 10, .inr (.inl (mo_D (((mo_rs (mo_b0 pq) n) + 2 ^ (69 - n)) * ((mo_rs (mo_b0 pq) n) + 2 ^ (69 - n))))))), (m10, .inl (cL, 15, .inr (.inl s3)))] := hD
                refine lv_iinc (v := xk_dv d) (lv' := [(3, .int (xk_dv d)), (0, .ref m0), (1, .int (nI pq)), (2, .int 0)]) hx hb dX3_rootOf_72 hl (k := 3) rfl (by rw [show 69 - n = d by omega]; exact xk_dvs d) (by decide) rfl (fun ls hl => ?_)
                refine lv_goto (tgt := 23) hx hb dX3_rootOf_75 (by decide) ?_
                exact ihloopA (n + 1) (by omega) _ _ _ hP hD hS (lv_sub hl [1, 2, 3, 0] rfl)
              · refine lv_aload_n hx hb dX3_rootOf_54 rfl (lv_at hl 0 rfl) ?_
                refine va_get (D := D) (ci := 3) (v := .ref m8) (C := RX3) (T := TX3) (N := 17) hx hb hts hi_3 hown hK hP 0 rfl rfl 14 (by decide) fl_32 (fun _ h9 => h9) rfl dX3_rootOf_55 ?_
                refine lv_iload_n hx hb dX3_rootOf_58 rfl (lv_at hl 3 rfl) ?_
                refine lv_bipush (v := 16) hx hb dX3_rootOf_59 (by decide) ?_
                refine xk_idivN hx hb (69 - n) 16 ((69 - n) / 16) rfl rfl (by omega) (by decide) (by decide) (by omega) dX3_rootOf_61 ?_
                refine lv_dup2_11 hx hb dX3_rootOf_62 rfl rfl ?_
                refine xk_lald hx hb hK hP 1 1 rfl rfl ((69 - n) / 16) rfl (by omega) (by decide) dX3_rootOf_63 ?_
                refine lv_lconst (v := 1) hx hb dX3_rootOf_64 rfl ?_
                refine lv_iload_n hx hb dX3_rootOf_65 rfl (lv_at hl 3 rfl) ?_
                refine lv_bipush (v := 16) hx hb dX3_rootOf_66 (by decide) ?_
                refine xk_iremN hx hb (69 - n) 16 ((69 - n) % 16) rfl rfl (by omega) (by decide) (by decide) (by omega) dX3_rootOf_68 ?_
                refine lv_lshl (v := (xm_l 1 (nI ((69 - n) % 16)))) hx hb dX3_rootOf_69 rfl ?_
                refine lv_lsub hx hb dX3_rootOf_70 ?_
                refine xk_last hx hb hK hP hD hS 1 1 rfl rfl ((69 - n) / 16) rfl (by omega) (by decide) dX3_rootOf_71 (fun H locs hP hD hS => ?_)
                have hP : va_P D classes [(m0, .inr (3, [.int rd, .int md, .int cd, .int ln, .ref m1, .long pp, .long qq, .ref m2, .int hd, .ref m3, .ref m4, .ref m5, .ref m6, .ref m7, .ref m8, .ref m9, .ref m10])), (m8, .inl (cL, 5, .inr (.inl (vp_updL (mo_D ((mo_rs (mo_b0 pq) n) + 2 ^ (69 - n))) ((69 - n) / 16) (((mo_D ((mo_rs (mo_b0 pq) n) + 2 ^ (69 - n))) ((69 - n) / 16)) - (xm_l 1 (nI ((69 - n) % 16)))))))), (m9, .inl (cL, 10, .inr (.inl (mo_D (((mo_rs (mo_b0 pq) n) + 2 ^ (69 - n)) * ((mo_rs (mo_b0 pq) n) + 2 ^ (69 - n))))))), (m10, .inl (cL, 15, .inr (.inl s3)))] H := hP
                have hD : va_D A [(m0, .inr (3, [.int rd, .int md, .int cd, .int ln, .ref m1, .long pp, .long qq, .ref m2, .int hd, .ref m3, .ref m4, .ref m5, .ref m6, .ref m7, .ref m8, .ref m9, .ref m10])), (m8, .inl (cL, 5, .inr (.inl (vp_updL (mo_D ((mo_rs (mo_b0 pq) n) + 2 ^ (69 - n))) ((69 - n) / 16) (((mo_D ((mo_rs (mo_b0 pq) n) + 2 ^ (69 - n))) ((69 - n) / 16)) - (xm_l 1 (nI ((69 - n) % 16)))))))), (m9, .inl (cL, 10, .inr (.inl (mo_D (((mo_rs (mo_b0 pq) n) + 2 ^ (69 - n)) * ((mo_rs (mo_b0 pq) n) + 2 ^ (69 - n))))))), (m10, .inl (cL, 15, .inr (.inl s3)))] := hD
                generalize eL2 : vp_updL (mo_D ((mo_rs (mo_b0 pq) n) + 2 ^ (69 - n))) ((69 - n) / 16) (((mo_D ((mo_rs (mo_b0 pq) n) + 2 ^ (69 - n))) ((69 - n) / 16)) - (xm_l 1 (nI ((69 - n) % 16)))) = L2 at hP hD
                subst eL2
                have hP := xk_congL hP 1 rfl (g := mo_D (mo_rs (mo_b0 pq) n)) (bit_sub (mo_rs (mo_b0 pq) n) (69 - n) hr0 (by omega) hr1)
                have hD := va_D.set (p := 1) (e := .inl (cL, 5, .inr (.inl (mo_D (mo_rs (mo_b0 pq) n))))) hD rfl
                have hP : va_P D classes [(m0, .inr (3, [.int rd, .int md, .int cd, .int ln, .ref m1, .long pp, .long qq, .ref m2, .int hd, .ref m3, .ref m4, .ref m5, .ref m6, .ref m7, .ref m8, .ref m9, .ref m10])), (m8, .inl (cL, 5, .inr (.inl (mo_D (mo_rs (mo_b0 pq) n))))), (m9, .inl (cL, 10, .inr (.inl (mo_D (((mo_rs (mo_b0 pq) n) + 2 ^ (69 - n)) * ((mo_rs (mo_b0 pq) n) + 2 ^ (69 - n))))))), (m10, .inl (cL, 15, .inr (.inl s3)))] H := hP
                have hD : va_D A [(m0, .inr (3, [.int rd, .int md, .int cd, .int ln, .ref m1, .long pp, .long qq, .ref m2, .int hd, .ref m3, .ref m4, .ref m5, .ref m6, .ref m7, .ref m8, .ref m9, .ref m10])), (m8, .inl (cL, 5, .inr (.inl (mo_D (mo_rs (mo_b0 pq) n))))), (m9, .inl (cL, 10, .inr (.inl (mo_D (((mo_rs (mo_b0 pq) n) + 2 ^ (69 - n)) * ((mo_rs (mo_b0 pq) n) + 2 ^ (69 - n))))))), (m10, .inl (cL, 15, .inr (.inl s3)))] := hD
                have c2 : ¬ mo_b0 pq ((mo_rs (mo_b0 pq) n) + 2 ^ (69 - n)) = true := fun h => absurd (show xb_I (mo_b0 pq ((mo_rs (mo_b0 pq) n) + 2 ^ (69 - n))) = 0 from c1) (by rw [h]; decide)
                have hP := xk_congL hP 1 rfl (g := mo_D (mo_rs (mo_b0 pq) (n + 1))) (fun j _ => by rw [show mo_rs (mo_b0 pq) (n + 1) = _ from if_neg c2])
                have hD := va_D.set (p := 1) (e := .inl (cL, 5, .inr (.inl (mo_D (mo_rs (mo_b0 pq) (n + 1)))))) hD rfl
                have hP : va_P D classes [(m0, .inr (3, [.int rd, .int md, .int cd, .int ln, .ref m1, .long pp, .long qq, .ref m2, .int hd, .ref m3, .ref m4, .ref m5, .ref m6, .ref m7, .ref m8, .ref m9, .ref m10])), (m8, .inl (cL, 5, .inr (.inl (mo_D (mo_rs (mo_b0 pq) (n + 1)))))), (m9, .inl (cL, 10, .inr (.inl (mo_D (((mo_rs (mo_b0 pq) n) + 2 ^ (69 - n)) * ((mo_rs (mo_b0 pq) n) + 2 ^ (69 - n))))))), (m10, .inl (cL, 15, .inr (.inl s3)))] H := hP
                have hD : va_D A [(m0, .inr (3, [.int rd, .int md, .int cd, .int ln, .ref m1, .long pp, .long qq, .ref m2, .int hd, .ref m3, .ref m4, .ref m5, .ref m6, .ref m7, .ref m8, .ref m9, .ref m10])), (m8, .inl (cL, 5, .inr (.inl (mo_D (mo_rs (mo_b0 pq) (n + 1)))))), (m9, .inl (cL, 10, .inr (.inl (mo_D (((mo_rs (mo_b0 pq) n) + 2 ^ (69 - n)) * ((mo_rs (mo_b0 pq) n) + 2 ^ (69 - n))))))), (m10, .inl (cL, 15, .inr (.inl s3)))] := hD
                refine lv_iinc (v := xk_dv d) (lv' := [(3, .int (xk_dv d)), (0, .ref m0), (1, .int (nI pq)), (2, .int 0)]) hx hb dX3_rootOf_72 hl (k := 3) rfl (by rw [show 69 - n = d by omega]; exact xk_dvs d) (by decide) rfl (fun ls hl => ?_)
                refine lv_goto (tgt := 23) hx hb dX3_rootOf_75 (by decide) ?_
                exact ihloopA (n + 1) (by omega) _ _ _ hP hD hS (lv_sub hl [1, 2, 3, 0] rfl)
        exact loopA 70 0 rfl _ _ _ hP hD hS (lv_sub hl [1, 2, 3, 0] rfl)
      · exact absurd (nI_le (a := 5) (b := 5) (by omega) (by omega)) c
    | succ d ihloopZ =>
      intro k hk H locs ls hP hD hS hl
      refine lv_iload_n hx hb dX3_rootOf_2 rfl (lv_at hl 3 rfl) ?_
      refine lv_iconst (v := 5) hx hb dX3_rootOf_3 (by decide) ?_
      refine lv_icmp_ge (tgt := 20) hx hb dX3_rootOf_4 (by decide) (fun c => ?_) (fun c => ?_)
      · exact absurd c (nI_ge (a := k) (b := 5) (by omega) (by omega))
      · refine lv_aload_n hx hb dX3_rootOf_7 rfl (lv_at hl 0 rfl) ?_
        refine va_get (D := D) (ci := 3) (v := .ref m8) (C := RX3) (T := TX3) (N := 17) hx hb hts hi_3 hown hK hP 0 rfl rfl 14 (by decide) fl_32 (fun _ h9 => h9) rfl dX3_rootOf_8 ?_
        refine lv_iload_n hx hb dX3_rootOf_11 rfl (lv_at hl 3 rfl) ?_
        refine lv_lconst (v := 0) hx hb dX3_rootOf_12 rfl ?_
        refine xk_last hx hb hK hP hD hS 1 1 rfl rfl k rfl (by omega) (by decide) dX3_rootOf_13 (fun H locs hP hD hS => ?_)
        have hP : va_P D classes [(m0, .inr (3, [.int rd, .int md, .int cd, .int ln, .ref m1, .long pp, .long qq, .ref m2, .int hd, .ref m3, .ref m4, .ref m5, .ref m6, .ref m7, .ref m8, .ref m9, .ref m10])), (m8, .inl (cL, 5, .inr (.inl (vp_updL (mo_z rt k) k 0)))), (m9, .inl (cL, 10, .inr (.inl s2))), (m10, .inl (cL, 15, .inr (.inl s3)))] H := hP
        have hD : va_D A [(m0, .inr (3, [.int rd, .int md, .int cd, .int ln, .ref m1, .long pp, .long qq, .ref m2, .int hd, .ref m3, .ref m4, .ref m5, .ref m6, .ref m7, .ref m8, .ref m9, .ref m10])), (m8, .inl (cL, 5, .inr (.inl (vp_updL (mo_z rt k) k 0)))), (m9, .inl (cL, 10, .inr (.inl s2))), (m10, .inl (cL, 15, .inr (.inl s3)))] := hD
        generalize eL3 : vp_updL (mo_z rt k) k 0 = L3 at hP hD
        refine lv_iinc (v := nI (k + 1)) (lv' := [(3, .int (nI (k + 1))), (0, .ref m0), (1, .int (nI pq)), (2, .int 0)]) hx hb dX3_rootOf_14 hl (k := 3) rfl (xk_i1 (by omega)) (by decide) rfl (fun ls hl => ?_)
        refine lv_goto (tgt := 2) hx hb dX3_rootOf_17 (by decide) ?_
        subst eL3
        exact ihloopZ (k + 1) (by omega) _ _ _ hP hD hS (lv_sub hl [1, 2, 3, 0] rfl)
  exact loopZ 5 0 rfl _ _ _ hP hD hS (lv_sub hl [1, 2, 3, 0] rfl)
abbrev rm_X3_rootOf_1 : Room := { frames := 2, cells := 0, slots := 0, locals := 52 }
set_option maxHeartbeats 4000000 in
set_option maxRecDepth 100000 in
theorem c_X3_rootOf_1 (l : Launch) (D : va_G) (cI cL : ClassId) (sz : Nat) (m0 : Nat) (m1 : Nat) (m2 : Nat) (m3 : Nat) (m4 : Nat) (m5 : Nat) (m6 : Nat) (m7 : Nat) (m8 : Nat) (m9 : Nat) (m10 : Nat) (rd : Int32) (md : Int32) (cd : Int32) (ln : Int32) (pp : Int64) (qq : Int64) (hd : Int32) (rt : Nat → Int64) (s2 : Nat → Int64) (s3 : Nat → Int64) (pq : Nat) (hp : pq < 1000) : xk_L l yX3_rootOf wsX3_rootOf rm_X3_rootOf_1 xk_0 D classes [(cI, .int), (cL, .long)] [.ref m0, .int (nI pq), .int 1] [(m0, .inr (3, [.int rd, .int md, .int cd, .int ln, .ref m1, .long pp, .long qq, .ref m2, .int hd, .ref m3, .ref m4, .ref m5, .ref m6, .ref m7, .ref m8, .ref m9, .ref m10])), (m8, .inl (cL, 5, .inr (.inl rt))), (m9, .inl (cL, 10, .inr (.inl s2))), (m10, .inl (cL, 15, .inr (.inl s3)))] [(m0, .inr (3, [.int rd, .int md, .int cd, .int ln, .ref m1, .long pp, .long qq, .ref m2, .int hd, .ref m3, .ref m4, .ref m5, .ref m6, .ref m7, .ref m8, .ref m9, .ref m10])), (m8, .inl (cL, 5, .inr (.inl (mo_D (mo_rs (mo_b1 pq) 70))))), (m9, .inl (cL, 10, .inr (.inl (mo_k2 (mo_b1 pq) s2 70)))), (m10, .inl (cL, 15, .inr (.inl (mo_k3 (mo_b1 pq) s3 70))))] (lN (mo_rs (mo_b1 pq) 70 % 2 ^ 64)) sz := by
  refine xk_entL (cc := cX3_rootOf) (maxL := 4) (by decide) rfl (Nat.le_of_ble_eq_true rfl) ?_
  intro p e s m args below meth co Q A ls hx hb hml hts hown hA hK hP hD hS hX ret hl
  have hl : lv_has ls 4 [(0, .ref m0), (1, .int (nI pq)), (2, .int 1)] := hl
  have hi_3 : ∀ w ∈ u_ws RX3 TX3 17, w ∈ wsX3_rootOf := by decide +kernel
  have fl_32 := hts (.fieldLink RX3 32 "WideHashModel" "root" "[J") (by decide +kernel)
  refine lv_iconst (v := 0) hx hb dX3_rootOf_0 (by decide) ?_
  refine lv_istore_n (lv' := [(3, .int 0), (0, .ref m0), (1, .int (nI pq)), (2, .int 1)]) hx hb dX3_rootOf_1 rfl hl (by decide) rfl (fun ls hl => ?_)
  have loopZ : ∀ (d : Nat) (k : Nat), (hk : k + d = 5) → ∀ (H : Heap) (locs : List Loc) (ls : Array Slot), va_P D classes [(m0, .inr (3, [.int rd, .int md, .int cd, .int ln, .ref m1, .long pp, .long qq, .ref m2, .int hd, .ref m3, .ref m4, .ref m5, .ref m6, .ref m7, .ref m8, .ref m9, .ref m10])), (m8, .inl (cL, 5, .inr (.inl (mo_z rt k)))), (m9, .inl (cL, 10, .inr (.inl s2))), (m10, .inl (cL, 15, .inr (.inl s3)))] H → va_D A [(m0, .inr (3, [.int rd, .int md, .int cd, .int ln, .ref m1, .long pp, .long qq, .ref m2, .int hd, .ref m3, .ref m4, .ref m5, .ref m6, .ref m7, .ref m8, .ref m9, .ref m10])), (m8, .inl (cL, 5, .inr (.inl (mo_z rt k)))), (m9, .inl (cL, 10, .inr (.inl s2))), (m10, .inl (cL, 15, .inr (.inl s3)))] → va_S A s.heap H locs → lv_has ls 4 [(0, .ref m0), (1, .int (nI pq)), (2, .int 1), (3, .int (nI k))] → W p l e rm_X3_rootOf_1 s m args below meth co H locs 0 0 Q (F0 m 2 ls []) := by
    intro d
    induction d with
    | zero =>
      intro k hk H locs ls hP hD hS hl
      obtain rfl : k = 5 := by omega
      refine lv_iload_n hx hb dX3_rootOf_2 rfl (lv_at hl 3 rfl) ?_
      refine lv_iconst (v := 5) hx hb dX3_rootOf_3 (by decide) ?_
      refine lv_icmp_ge (tgt := 20) hx hb dX3_rootOf_4 (by decide) (fun c => ?_) (fun c => ?_)
      · have hP := xk_congL hP 1 rfl (g := mo_D (mo_rs (mo_b1 pq) 0)) (fun j hj => by rw [mo_z_at rt 5 j hj]; show 0 = lN (0 / 65536 ^ j % 65536); rw [Nat.zero_div]; rfl)
        have hD := va_D.set (p := 1) (e := .inl (cL, 5, .inr (.inl (mo_D (mo_rs (mo_b1 pq) 0))))) hD rfl
        have hP : va_P D classes [(m0, .inr (3, [.int rd, .int md, .int cd, .int ln, .ref m1, .long pp, .long qq, .ref m2, .int hd, .ref m3, .ref m4, .ref m5, .ref m6, .ref m7, .ref m8, .ref m9, .ref m10])), (m8, .inl (cL, 5, .inr (.inl (mo_D (mo_rs (mo_b1 pq) 0))))), (m9, .inl (cL, 10, .inr (.inl s2))), (m10, .inl (cL, 15, .inr (.inl s3)))] H := hP
        have hD : va_D A [(m0, .inr (3, [.int rd, .int md, .int cd, .int ln, .ref m1, .long pp, .long qq, .ref m2, .int hd, .ref m3, .ref m4, .ref m5, .ref m6, .ref m7, .ref m8, .ref m9, .ref m10])), (m8, .inl (cL, 5, .inr (.inl (mo_D (mo_rs (mo_b1 pq) 0))))), (m9, .inl (cL, 10, .inr (.inl s2))), (m10, .inl (cL, 15, .inr (.inl s3)))] := hD
        refine lv_bipush (v := 69) hx hb dX3_rootOf_20 (by decide) ?_
        refine lv_istore_n (lv' := [(3, .int 69), (0, .ref m0), (1, .int (nI pq)), (2, .int 1)]) hx hb dX3_rootOf_22 rfl hl (by decide) rfl (fun ls hl => ?_)
        have loopA : ∀ (d : Nat) (n : Nat), (hn : n + d = 70) → ∀ (H : Heap) (locs : List Loc) (ls : Array Slot), va_P D classes [(m0, .inr (3, [.int rd, .int md, .int cd, .int ln, .ref m1, .long pp, .long qq, .ref m2, .int hd, .ref m3, .ref m4, .ref m5, .ref m6, .ref m7, .ref m8, .ref m9, .ref m10])), (m8, .inl (cL, 5, .inr (.inl (mo_D (mo_rs (mo_b1 pq) n))))), (m9, .inl (cL, 10, .inr (.inl (mo_k2 (mo_b1 pq) s2 n)))), (m10, .inl (cL, 15, .inr (.inl (mo_k3 (mo_b1 pq) s3 n))))] H → va_D A [(m0, .inr (3, [.int rd, .int md, .int cd, .int ln, .ref m1, .long pp, .long qq, .ref m2, .int hd, .ref m3, .ref m4, .ref m5, .ref m6, .ref m7, .ref m8, .ref m9, .ref m10])), (m8, .inl (cL, 5, .inr (.inl (mo_D (mo_rs (mo_b1 pq) n))))), (m9, .inl (cL, 10, .inr (.inl (mo_k2 (mo_b1 pq) s2 n)))), (m10, .inl (cL, 15, .inr (.inl (mo_k3 (mo_b1 pq) s3 n))))] → va_S A s.heap H locs → lv_has ls 4 [(0, .ref m0), (1, .int (nI pq)), (2, .int 1), (3, .int (xk_dv d))] → W p l e rm_X3_rootOf_1 s m args below meth co H locs 0 0 Q (F0 m 23 ls []) := by
          intro d
          induction d with
          | zero =>
            intro n hn H locs ls hP hD hS hl
            obtain rfl : n = 70 := by omega
            refine lv_iload_n hx hb dX3_rootOf_23 rfl (lv_at hl 3 rfl) ?_
            refine lv_if_lt (tgt := 78) hx hb dX3_rootOf_24 (by decide) (fun c => ?_) (fun c => ?_)
            · refine lv_aload_n hx hb dX3_rootOf_78 rfl (lv_at hl 0 rfl) ?_
              refine va_get (D := D) (ci := 3) (v := .ref m8) (C := RX3) (T := TX3) (N := 17) hx hb hts hi_3 hown hK hP 0 rfl rfl 14 (by decide) fl_32 (fun _ h9 => h9) rfl dX3_rootOf_79 ?_
              refine lv_iconst (v := 3) hx hb dX3_rootOf_82 (by decide) ?_
              refine xk_lald hx hb hK hP 1 1 rfl rfl 3 rfl (by omega) (by decide) dX3_rootOf_83 ?_
              refine lv_bipush (v := 48) hx hb dX3_rootOf_84 (by decide) ?_
              refine lv_lshl (v := (xm_l ((mo_D (mo_rs (mo_b1 pq) 70)) 3) 48)) hx hb dX3_rootOf_86 rfl ?_
              refine lv_aload_n hx hb dX3_rootOf_87 rfl (lv_at hl 0 rfl) ?_
              refine va_get (D := D) (ci := 3) (v := .ref m8) (C := RX3) (T := TX3) (N := 17) hx hb hts hi_3 hown hK hP 0 rfl rfl 14 (by decide) fl_32 (fun _ h9 => h9) rfl dX3_rootOf_88 ?_
              refine lv_iconst (v := 2) hx hb dX3_rootOf_91 (by decide) ?_
              refine xk_lald hx hb hK hP 1 1 rfl rfl 2 rfl (by omega) (by decide) dX3_rootOf_92 ?_
              refine lv_bipush (v := 32) hx hb dX3_rootOf_93 (by decide) ?_
              refine lv_lshl (v := (xm_l ((mo_D (mo_rs (mo_b1 pq) 70)) 2) 32)) hx hb dX3_rootOf_95 rfl ?_
              refine lv_lor hx hb dX3_rootOf_96 ?_
              refine lv_aload_n hx hb dX3_rootOf_97 rfl (lv_at hl 0 rfl) ?_
              refine va_get (D := D) (ci := 3) (v := .ref m8) (C := RX3) (T := TX3) (N := 17) hx hb hts hi_3 hown hK hP 0 rfl rfl 14 (by decide) fl_32 (fun _ h9 => h9) rfl dX3_rootOf_98 ?_
              refine lv_iconst (v := 1) hx hb dX3_rootOf_101 (by decide) ?_
              refine xk_lald hx hb hK hP 1 1 rfl rfl 1 rfl (by omega) (by decide) dX3_rootOf_102 ?_
              refine lv_bipush (v := 16) hx hb dX3_rootOf_103 (by decide) ?_
              refine lv_lshl (v := (xm_l ((mo_D (mo_rs (mo_b1 pq) 70)) 1) 16)) hx hb dX3_rootOf_105 rfl ?_
              refine lv_lor hx hb dX3_rootOf_106 ?_
              refine lv_aload_n hx hb dX3_rootOf_107 rfl (lv_at hl 0 rfl) ?_
              refine va_get (D := D) (ci := 3) (v := .ref m8) (C := RX3) (T := TX3) (N := 17) hx hb hts hi_3 hown hK hP 0 rfl rfl 14 (by decide) fl_32 (fun _ h9 => h9) rfl dX3_rootOf_108 ?_
              refine lv_iconst (v := 0) hx hb dX3_rootOf_111 (by decide) ?_
              refine xk_lald hx hb hK hP 1 1 rfl rfl 0 rfl (by omega) (by decide) dX3_rootOf_112 ?_
              refine lv_lor hx hb dX3_rootOf_113 ?_
              refine xk_asl (lN (mo_rs (mo_b1 pq) 70 % 2 ^ 64)) (dig_4 _) ?_
              exact ret _ _ _ _ _ rfl hP hD hS dX3_rootOf_114
            · exact absurd (by decide) c
          | succ d ihloopA =>
            intro n hn H locs ls hP hD hS hl
            have hl : lv_has ls 4 [(0, .ref m0), (1, .int (nI pq)), (2, .int 1), (3, .int (nI (69 - n)))] := by rw [show 69 - n = d by omega]; exact hl
            obtain ⟨hr0, hr1, hr2⟩ := mo_rs_at (mo_b1 pq) n (by omega)
            refine lv_iload_n hx hb dX3_rootOf_23 rfl (lv_at hl 3 rfl) ?_
            refine lv_if_lt (tgt := 78) hx hb dX3_rootOf_24 (by decide) (fun c => ?_) (fun c => ?_)
            · exact absurd c (nI_pos (by omega))
            · refine lv_aload_n hx hb dX3_rootOf_27 rfl (lv_at hl 0 rfl) ?_
              refine va_get (D := D) (ci := 3) (v := .ref m8) (C := RX3) (T := TX3) (N := 17) hx hb hts hi_3 hown hK hP 0 rfl rfl 14 (by decide) fl_32 (fun _ h9 => h9) rfl dX3_rootOf_28 ?_
              refine lv_iload_n hx hb dX3_rootOf_31 rfl (lv_at hl 3 rfl) ?_
              refine lv_bipush (v := 16) hx hb dX3_rootOf_32 (by decide) ?_
              refine xk_idivN hx hb (69 - n) 16 ((69 - n) / 16) rfl rfl (by omega) (by decide) (by decide) (by omega) dX3_rootOf_34 ?_
              refine lv_dup2_11 hx hb dX3_rootOf_35 rfl rfl ?_
              refine xk_lald hx hb hK hP 1 1 rfl rfl ((69 - n) / 16) rfl (by omega) (by decide) dX3_rootOf_36 ?_
              refine lv_lconst (v := 1) hx hb dX3_rootOf_37 rfl ?_
              refine lv_iload_n hx hb dX3_rootOf_38 rfl (lv_at hl 3 rfl) ?_
              refine lv_bipush (v := 16) hx hb dX3_rootOf_39 (by decide) ?_
              refine xk_iremN hx hb (69 - n) 16 ((69 - n) % 16) rfl rfl (by omega) (by decide) (by decide) (by omega) dX3_rootOf_41 ?_
              refine lv_lshl (v := (xm_l 1 (nI ((69 - n) % 16)))) hx hb dX3_rootOf_42 rfl ?_
              refine lv_ladd hx hb dX3_rootOf_43 ?_
              refine xk_last hx hb hK hP hD hS 1 1 rfl rfl ((69 - n) / 16) rfl (by omega) (by decide) dX3_rootOf_44 (fun H locs hP hD hS => ?_)
              have hP : va_P D classes [(m0, .inr (3, [.int rd, .int md, .int cd, .int ln, .ref m1, .long pp, .long qq, .ref m2, .int hd, .ref m3, .ref m4, .ref m5, .ref m6, .ref m7, .ref m8, .ref m9, .ref m10])), (m8, .inl (cL, 5, .inr (.inl (vp_updL (mo_D (mo_rs (mo_b1 pq) n)) ((69 - n) / 16) (((mo_D (mo_rs (mo_b1 pq) n)) ((69 - n) / 16)) + (xm_l 1 (nI ((69 - n) % 16)))))))), (m9, .inl (cL, 10, .inr (.inl (mo_k2 (mo_b1 pq) s2 n)))), (m10, .inl (cL, 15, .inr (.inl (mo_k3 (mo_b1 pq) s3 n))))] H := hP
              have hD : va_D A [(m0, .inr (3, [.int rd, .int md, .int cd, .int ln, .ref m1, .long pp, .long qq, .ref m2, .int hd, .ref m3, .ref m4, .ref m5, .ref m6, .ref m7, .ref m8, .ref m9, .ref m10])), (m8, .inl (cL, 5, .inr (.inl (vp_updL (mo_D (mo_rs (mo_b1 pq) n)) ((69 - n) / 16) (((mo_D (mo_rs (mo_b1 pq) n)) ((69 - n) / 16)) + (xm_l 1 (nI ((69 - n) % 16)))))))), (m9, .inl (cL, 10, .inr (.inl (mo_k2 (mo_b1 pq) s2 n)))), (m10, .inl (cL, 15, .inr (.inl (mo_k3 (mo_b1 pq) s3 n))))] := hD
              generalize eL1 : vp_updL (mo_D (mo_rs (mo_b1 pq) n)) ((69 - n) / 16) (((mo_D (mo_rs (mo_b1 pq) n)) ((69 - n) / 16)) + (xm_l 1 (nI ((69 - n) % 16)))) = L1 at hP hD
              subst eL1
              have hP := xk_congL hP 1 rfl (g := mo_D ((mo_rs (mo_b1 pq) n) + 2 ^ (69 - n))) (bit_add (mo_rs (mo_b1 pq) n) (69 - n) hr0 (by omega) hr1)
              have hD := va_D.set (p := 1) (e := .inl (cL, 5, .inr (.inl (mo_D ((mo_rs (mo_b1 pq) n) + 2 ^ (69 - n)))))) hD rfl
              have hP : va_P D classes [(m0, .inr (3, [.int rd, .int md, .int cd, .int ln, .ref m1, .long pp, .long qq, .ref m2, .int hd, .ref m3, .ref m4, .ref m5, .ref m6, .ref m7, .ref m8, .ref m9, .ref m10])), (m8, .inl (cL, 5, .inr (.inl (mo_D ((mo_rs (mo_b1 pq) n) + 2 ^ (69 - n)))))), (m9, .inl (cL, 10, .inr (.inl (mo_k2 (mo_b1 pq) s2 n)))), (m10, .inl (cL, 15, .inr (.inl (mo_k3 (mo_b1 pq) s3 n))))] H := hP
              have hD : va_D A [(m0, .inr (3, [.int rd, .int md, .int cd, .int ln, .ref m1, .long pp, .long qq, .ref m2, .int hd, .ref m3, .ref m4, .ref m5, .ref m6, .ref m7, .ref m8, .ref m9, .ref m10])), (m8, .inl (cL, 5, .inr (.inl (mo_D ((mo_rs (mo_b1 pq) n) + 2 ^ (69 - n)))))), (m9, .inl (cL, 10, .inr (.inl (mo_k2 (mo_b1 pq) s2 n)))), (m10, .inl (cL, 15, .inr (.inl (mo_k3 (mo_b1 pq) s3 n))))] := hD
              refine lv_aload_n hx hb dX3_rootOf_45 rfl (lv_at hl 0 rfl) ?_
              refine lv_iload_n hx hb dX3_rootOf_46 rfl (lv_at hl 1 rfl) ?_
              refine lv_iload_n hx hb dX3_rootOf_47 rfl (lv_at hl 2 rfl) ?_
              refine xk_goI (r := (xb_I (decide (((mo_rs (mo_b1 pq) n) + 2 ^ (69 - n)) * ((mo_rs (mo_b1 pq) n) + 2 ^ (69 - n)) * ((mo_rs (mo_b1 pq) n) + 2 ^ (69 - n)) / 65536 ^ 12 < pq)))) (wr := []) (w2 := [(m0, .inr (3, [.int rd, .int md, .int cd, .int ln, .ref m1, .long pp, .long qq, .ref m2, .int hd, .ref m3, .ref m4, .ref m5, .ref m6, .ref m7, .ref m8, .ref m9, .ref m10])), (m8, .inl (cL, 5, .inr (.inl (mo_D ((mo_rs (mo_b1 pq) n) + 2 ^ (69 - n)))))), (m9, .inl (cL, 10, .inr (.inl (mo_D (((mo_rs (mo_b1 pq) n) + 2 ^ (69 - n)) * ((mo_rs (mo_b1 pq) n) + 2 ^ (69 - n))))))), (m10, .inl (cL, 15, .inr (.inl (mo_D (((mo_rs (mo_b1 pq) n) + 2 ^ (69 - n)) * ((mo_rs (mo_b1 pq) n) + 2 ^ (69 - n)) * ((mo_rs (mo_b1 pq) n) + 2 ^ (69 - n)))))))]) (va_runV (As := [.int (nI pq), .int 1]) (rest := []) ⟨hx, hb, hml, hown, hts⟩ (c_X3_isBelow_1 l D cI cL H.size m0 m1 m2 m3 m4 m5 m6 m7 m8 m9 m10 rd md cd ln pp qq hd (mo_k2 (mo_b1 pq) s2 n) (mo_k3 (mo_b1 pq) s3 n) ((mo_rs (mo_b1 pq) n) + 2 ^ (69 - n)) pq hr2 hp) (cwV 2 hts gX3_rootOf_X3_isBelow rfl rfl rfl (by decide +kernel) ⟨Nat.le_of_ble_eq_true rfl, Nat.le_of_ble_eq_true rfl⟩) ⟨xk_blind xk_0_ok, va_recv hK hP (ci := 3) (q0 := 0) rfl rfl, xk_at xk_0_ok trivial hP hD hK hS hA [0, 1, 2, 3] rfl (by decide) rfl⟩ rfl rfl hl.1 rfl (lv_room (Nat.le_of_ble_eq_true rfl)) dX3_rootOf_48 ⟨Nat.le_of_ble_eq_true rfl, Nat.le_of_ble_eq_true rfl⟩) hP hD hS hA [0, 1, 2, 3] [] [0, 1, 2, 3] rfl rfl (by decide) (by decide) rfl (by decide) rfl (fun H locs hP hD hS => ?_)
              refine lv_if_ne (tgt := 72) hx hb dX3_rootOf_51 (by decide) (fun c1 => ?_) (fun c1 => ?_)
              · have c2 : mo_b1 pq ((mo_rs (mo_b1 pq) n) + 2 ^ (69 - n)) = true := by cases hb : mo_b1 pq ((mo_rs (mo_b1 pq) n) + 2 ^ (69 - n)) with | true => rfl | false => exact absurd (by show xb_I (mo_b1 pq ((mo_rs (mo_b1 pq) n) + 2 ^ (69 - n))) = 0; rw [hb]; rfl) c1
                have hP := xk_congL hP 1 rfl (g := mo_D (mo_rs (mo_b1 pq) (n + 1))) (fun j _ => by rw [show mo_rs (mo_b1 pq) (n + 1) = _ from if_pos c2])
                have hD := va_D.set (p := 1) (e := .inl (cL, 5, .inr (.inl (mo_D (mo_rs (mo_b1 pq) (n + 1)))))) hD rfl
                have hP : va_P D classes [(m0, .inr (3, [.int rd, .int md, .int cd, .int ln, .ref m1, .long pp, .long qq, .ref m2, .int hd, .ref m3, .ref m4, .ref m5, .ref m6, .ref m7, .ref m8, .ref m9, .ref m10])), (m8, .inl (cL, 5, .inr (.inl (mo_D (mo_rs (mo_b1 pq) (n + 1)))))), (m9, .inl (cL, 10, .inr (.inl (mo_D (((mo_rs (mo_b1 pq) n) + 2 ^ (69 - n)) * ((mo_rs (mo_b1 pq) n) + 2 ^ (69 - n))))))), (m10, .inl (cL, 15, .inr (.inl (mo_D (((mo_rs (mo_b1 pq) n) + 2 ^ (69 - n)) * ((mo_rs (mo_b1 pq) n) + 2 ^ (69 - n)) * ((mo_rs (mo_b1 pq) n) + 2 ^ (69 - n)))))))] H := hP
                have hD : va_D A [(m0, .inr (3, [.int rd, .int md, .int cd, .int ln, .ref m1, .long pp, .long qq, .ref m2, .int hd, .ref m3, .ref m4, .ref m5, .ref m6, .ref m7, .ref m8, .ref m9, .ref m10])), (m8, .inl (cL, 5, .inr (.inl (mo_D (mo_rs (mo_b1 pq) (n + 1)))))), (m9, .inl (cL, 10, .inr (.inl (mo_D (((mo_rs (mo_b1 pq) n) + 2 ^ (69 - n)) * ((mo_rs (mo_b1 pq) n) + 2 ^ (69 - n))))))), (m10, .inl (cL, 15, .inr (.inl (mo_D (((mo_rs (mo_b1 pq) n) + 2 ^ (69 - n)) * ((mo_rs (mo_b1 pq) n) + 2 ^ (69 - n)) * ((mo_rs (mo_b1 pq) n) + 2 ^ (69 - n)))))))] := hD
                refine lv_iinc (v := xk_dv d) (lv' := [(3, .int (xk_dv d)), (0, .ref m0), (1, .int (nI pq)), (2, .int 1)]) hx hb dX3_rootOf_72 hl (k := 3) rfl (by rw [show 69 - n = d by omega]; exact xk_dvs d) (by decide) rfl (fun ls hl => ?_)
                refine lv_goto (tgt := 23) hx hb dX3_rootOf_75 (by decide) ?_
                exact ihloopA (n + 1) (by omega) _ _ _ hP hD hS (lv_sub hl [1, 2, 3, 0] rfl)
              · refine lv_aload_n hx hb dX3_rootOf_54 rfl (lv_at hl 0 rfl) ?_
                refine va_get (D := D) (ci := 3) (v := .ref m8) (C := RX3) (T := TX3) (N := 17) hx hb hts hi_3 hown hK hP 0 rfl rfl 14 (by decide) fl_32 (fun _ h9 => h9) rfl dX3_rootOf_55 ?_
                refine lv_iload_n hx hb dX3_rootOf_58 rfl (lv_at hl 3 rfl) ?_
                refine lv_bipush (v := 16) hx hb dX3_rootOf_59 (by decide) ?_
                refine xk_idivN hx hb (69 - n) 16 ((69 - n) / 16) rfl rfl (by omega) (by decide) (by decide) (by omega) dX3_rootOf_61 ?_
                refine lv_dup2_11 hx hb dX3_rootOf_62 rfl rfl ?_
                refine xk_lald hx hb hK hP 1 1 rfl rfl ((69 - n) / 16) rfl (by omega) (by decide) dX3_rootOf_63 ?_
                refine lv_lconst (v := 1) hx hb dX3_rootOf_64 rfl ?_
                refine lv_iload_n hx hb dX3_rootOf_65 rfl (lv_at hl 3 rfl) ?_
                refine lv_bipush (v := 16) hx hb dX3_rootOf_66 (by decide) ?_
                refine xk_iremN hx hb (69 - n) 16 ((69 - n) % 16) rfl rfl (by omega) (by decide) (by decide) (by omega) dX3_rootOf_68 ?_
                refine lv_lshl (v := (xm_l 1 (nI ((69 - n) % 16)))) hx hb dX3_rootOf_69 rfl ?_
                refine lv_lsub hx hb dX3_rootOf_70 ?_
                refine xk_last hx hb hK hP hD hS 1 1 rfl rfl ((69 - n) / 16) rfl (by omega) (by decide) dX3_rootOf_71 (fun H locs hP hD hS => ?_)
                have hP : va_P D classes [(m0, .inr (3, [.int rd, .int md, .int cd, .int ln, .ref m1, .long pp, .long qq, .ref m2, .int hd, .ref m3, .ref m4, .ref m5, .ref m6, .ref m7, .ref m8, .ref m9, .ref m10])), (m8, .inl (cL, 5, .inr (.inl (vp_updL (mo_D ((mo_rs (mo_b1 pq) n) + 2 ^ (69 - n))) ((69 - n) / 16) (((mo_D ((mo_rs (mo_b1 pq) n) + 2 ^ (69 - n))) ((69 - n) / 16)) - (xm_l 1 (nI ((69 - n) % 16)))))))), (m9, .inl (cL, 10, .inr (.inl (mo_D (((mo_rs (mo_b1 pq) n) + 2 ^ (69 - n)) * ((mo_rs (mo_b1 pq) n) + 2 ^ (69 - n))))))), (m10, .inl (cL, 15, .inr (.inl (mo_D (((mo_rs (mo_b1 pq) n) + 2 ^ (69 - n)) * ((mo_rs (mo_b1 pq) n) + 2 ^ (69 - n)) * ((mo_rs (mo_b1 pq) n) + 2 ^ (69 - n)))))))] H := hP
                have hD : va_D A [(m0, .inr (3, [.int rd, .int md, .int cd, .int ln, .ref m1, .long pp, .long qq, .ref m2, .int hd, .ref m3, .ref m4, .ref m5, .ref m6, .ref m7, .ref m8, .ref m9, .ref m10])), (m8, .inl (cL, 5, .inr (.inl (vp_updL (mo_D ((mo_rs (mo_b1 pq) n) + 2 ^ (69 - n))) ((69 - n) / 16) (((mo_D ((mo_rs (mo_b1 pq) n) + 2 ^ (69 - n))) ((69 - n) / 16)) - (xm_l 1 (nI ((69 - n) % 16)))))))), (m9, .inl (cL, 10, .inr (.inl (mo_D (((mo_rs (mo_b1 pq) n) + 2 ^ (69 - n)) * ((mo_rs (mo_b1 pq) n) + 2 ^ (69 - n))))))), (m10, .inl (cL, 15, .inr (.inl (mo_D (((mo_rs (mo_b1 pq) n) + 2 ^ (69 - n)) * ((mo_rs (mo_b1 pq) n) + 2 ^ (69 - n)) * ((mo_rs (mo_b1 pq) n) + 2 ^ (69 - n)))))))] := hD
                generalize eL2 : vp_updL (mo_D ((mo_rs (mo_b1 pq) n) + 2 ^ (69 - n))) ((69 - n) / 16) (((mo_D ((mo_rs (mo_b1 pq) n) + 2 ^ (69 - n))) ((69 - n) / 16)) - (xm_l 1 (nI ((69 - n) % 16)))) = L2 at hP hD
                subst eL2
                have hP := xk_congL hP 1 rfl (g := mo_D (mo_rs (mo_b1 pq) n)) (bit_sub (mo_rs (mo_b1 pq) n) (69 - n) hr0 (by omega) hr1)
                have hD := va_D.set (p := 1) (e := .inl (cL, 5, .inr (.inl (mo_D (mo_rs (mo_b1 pq) n))))) hD rfl
                have hP : va_P D classes [(m0, .inr (3, [.int rd, .int md, .int cd, .int ln, .ref m1, .long pp, .long qq, .ref m2, .int hd, .ref m3, .ref m4, .ref m5, .ref m6, .ref m7, .ref m8, .ref m9, .ref m10])), (m8, .inl (cL, 5, .inr (.inl (mo_D (mo_rs (mo_b1 pq) n))))), (m9, .inl (cL, 10, .inr (.inl (mo_D (((mo_rs (mo_b1 pq) n) + 2 ^ (69 - n)) * ((mo_rs (mo_b1 pq) n) + 2 ^ (69 - n))))))), (m10, .inl (cL, 15, .inr (.inl (mo_D (((mo_rs (mo_b1 pq) n) + 2 ^ (69 - n)) * ((mo_rs (mo_b1 pq) n) + 2 ^ (69 - n)) * ((mo_rs (mo_b1 pq) n) + 2 ^ (69 - n)))))))] H := hP
                have hD : va_D A [(m0, .inr (3, [.int rd, .int md, .int cd, .int ln, .ref m1, .long pp, .long qq, .ref m2, .int hd, .ref m3, .ref m4, .ref m5, .ref m6, .ref m7, .ref m8, .ref m9, .ref m10])), (m8, .inl (cL, 5, .inr (.inl (mo_D (mo_rs (mo_b1 pq) n))))), (m9, .inl (cL, 10, .inr (.inl (mo_D (((mo_rs (mo_b1 pq) n) + 2 ^ (69 - n)) * ((mo_rs (mo_b1 pq) n) + 2 ^ (69 - n))))))), (m10, .inl (cL, 15, .inr (.inl (mo_D (((mo_rs (mo_b1 pq) n) + 2 ^ (69 - n)) * ((mo_rs (mo_b1 pq) n) + 2 ^ (69 - n)) * ((mo_rs (mo_b1 pq) n) + 2 ^ (69 - n)))))))] := hD
                have c2 : ¬ mo_b1 pq ((mo_rs (mo_b1 pq) n) + 2 ^ (69 - n)) = true := fun h => absurd (show xb_I (mo_b1 pq ((mo_rs (mo_b1 pq) n) + 2 ^ (69 - n))) = 0 from c1) (by rw [h]; decide)
                have hP := xk_congL hP 1 rfl (g := mo_D (mo_rs (mo_b1 pq) (n + 1))) (fun j _ => by rw [show mo_rs (mo_b1 pq) (n + 1) = _ from if_neg c2])
                have hD := va_D.set (p := 1) (e := .inl (cL, 5, .inr (.inl (mo_D (mo_rs (mo_b1 pq) (n + 1)))))) hD rfl
                have hP : va_P D classes [(m0, .inr (3, [.int rd, .int md, .int cd, .int ln, .ref m1, .long pp, .long qq, .ref m2, .int hd, .ref m3, .ref m4, .ref m5, .ref m6, .ref m7, .ref m8, .ref m9, .ref m10])), (m8, .inl (cL, 5, .inr (.inl (mo_D (mo_rs (mo_b1 pq) (n + 1)))))), (m9, .inl (cL, 10, .inr (.inl (mo_D (((mo_rs (mo_b1 pq) n) + 2 ^ (69 - n)) * ((mo_rs (mo_b1 pq) n) + 2 ^ (69 - n))))))), (m10, .inl (cL, 15, .inr (.inl (mo_D (((mo_rs (mo_b1 pq) n) + 2 ^ (69 - n)) * ((mo_rs (mo_b1 pq) n) + 2 ^ (69 - n)) * ((mo_rs (mo_b1 pq) n) + 2 ^ (69 - n)))))))] H := hP
                have hD : va_D A [(m0, .inr (3, [.int rd, .int md, .int cd, .int ln, .ref m1, .long pp, .long qq, .ref m2, .int hd, .ref m3, .ref m4, .ref m5, .ref m6, .ref m7, .ref m8, .ref m9, .ref m10])), (m8, .inl (cL, 5, .inr (.inl (mo_D (mo_rs (mo_b1 pq) (n + 1)))))), (m9, .inl (cL, 10, .inr (.inl (mo_D (((mo_rs (mo_b1 pq) n) + 2 ^ (69 - n)) * ((mo_rs (mo_b1 pq) n) + 2 ^ (69 - n))))))), (m10, .inl (cL, 15, .inr (.inl (mo_D (((mo_rs (mo_b1 pq) n) + 2 ^ (69 - n)) * ((mo_rs (mo_b1 pq) n) + 2 ^ (69 - n)) * ((mo_rs (mo_b1 pq) n) + 2 ^ (69 - n)))))))] := hD
                refine lv_iinc (v := xk_dv d) (lv' := [(3, .int (xk_dv d)), (0, .ref m0), (1, .int (nI pq)), (2, .int 1)]) hx hb dX3_rootOf_72 hl (k := 3) rfl (by rw [show 69 - n = d by omega]; exact xk_dvs d) (by decide) rfl (fun ls hl => ?_)
                refine lv_goto (tgt := 23) hx hb dX3_rootOf_75 (by decide) ?_
                exact ihloopA (n + 1) (by omega) _ _ _ hP hD hS (lv_sub hl [1, 2, 3, 0] rfl)
        exact loopA 70 0 rfl _ _ _ hP hD hS (lv_sub hl [1, 2, 3, 0] rfl)
      · exact absurd (nI_le (a := 5) (b := 5) (by omega) (by omega)) c
    | succ d ihloopZ =>
      intro k hk H locs ls hP hD hS hl
      refine lv_iload_n hx hb dX3_rootOf_2 rfl (lv_at hl 3 rfl) ?_
      refine lv_iconst (v := 5) hx hb dX3_rootOf_3 (by decide) ?_
      refine lv_icmp_ge (tgt := 20) hx hb dX3_rootOf_4 (by decide) (fun c => ?_) (fun c => ?_)
      · exact absurd c (nI_ge (a := k) (b := 5) (by omega) (by omega))
      · refine lv_aload_n hx hb dX3_rootOf_7 rfl (lv_at hl 0 rfl) ?_
        refine va_get (D := D) (ci := 3) (v := .ref m8) (C := RX3) (T := TX3) (N := 17) hx hb hts hi_3 hown hK hP 0 rfl rfl 14 (by decide) fl_32 (fun _ h9 => h9) rfl dX3_rootOf_8 ?_
        refine lv_iload_n hx hb dX3_rootOf_11 rfl (lv_at hl 3 rfl) ?_
        refine lv_lconst (v := 0) hx hb dX3_rootOf_12 rfl ?_
        refine xk_last hx hb hK hP hD hS 1 1 rfl rfl k rfl (by omega) (by decide) dX3_rootOf_13 (fun H locs hP hD hS => ?_)
        have hP : va_P D classes [(m0, .inr (3, [.int rd, .int md, .int cd, .int ln, .ref m1, .long pp, .long qq, .ref m2, .int hd, .ref m3, .ref m4, .ref m5, .ref m6, .ref m7, .ref m8, .ref m9, .ref m10])), (m8, .inl (cL, 5, .inr (.inl (vp_updL (mo_z rt k) k 0)))), (m9, .inl (cL, 10, .inr (.inl s2))), (m10, .inl (cL, 15, .inr (.inl s3)))] H := hP
        have hD : va_D A [(m0, .inr (3, [.int rd, .int md, .int cd, .int ln, .ref m1, .long pp, .long qq, .ref m2, .int hd, .ref m3, .ref m4, .ref m5, .ref m6, .ref m7, .ref m8, .ref m9, .ref m10])), (m8, .inl (cL, 5, .inr (.inl (vp_updL (mo_z rt k) k 0)))), (m9, .inl (cL, 10, .inr (.inl s2))), (m10, .inl (cL, 15, .inr (.inl s3)))] := hD
        generalize eL3 : vp_updL (mo_z rt k) k 0 = L3 at hP hD
        refine lv_iinc (v := nI (k + 1)) (lv' := [(3, .int (nI (k + 1))), (0, .ref m0), (1, .int (nI pq)), (2, .int 1)]) hx hb dX3_rootOf_14 hl (k := 3) rfl (xk_i1 (by omega)) (by decide) rfl (fun ls hl => ?_)
        refine lv_goto (tgt := 2) hx hb dX3_rootOf_17 (by decide) ?_
        subst eL3
        exact ihloopZ (k + 1) (by omega) _ _ _ hP hD hS (lv_sub hl [1, 2, 3, 0] rfl)
  exact loopZ 5 0 rfl _ _ _ hP hD hS (lv_sub hl [1, 2, 3, 0] rfl)
