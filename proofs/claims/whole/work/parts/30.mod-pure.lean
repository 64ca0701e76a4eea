abbrev rm_X3_of : Room := { frames := 0, cells := 0, slots := 0, locals := 0 }
set_option maxHeartbeats 4000000 in
set_option maxRecDepth 100000 in
theorem c_X3_of (l : Launch) (D : va_G) (u : Int32) (w : Int32) : xk_pL l yX3_of wsX3_of rm_X3_of [.int u, .int w] (mo_of u w) := by
  refine xk_entPL (cc := cX3_of) (maxL := 2) (D := D) (cl := classes) (by decide) rfl (Nat.le_of_ble_eq_true rfl) ?_
  intro p e s m args below meth co Q A ls hx hb hml hts hown hP hS ret hl
  have hl : lv_has ls 2 [(0, .int u), (1, .int w)] := hl
  have kc_59 := hts (.constantLong RX3 59 (4294967295)) (by decide +kernel)
  refine lv_iload_n hx hb dX3_of_0 rfl (lv_at hl 0 rfl) ?_
  refine lv_i2l (v := (Int32.toInt64 u)) hx hb dX3_of_1 rfl ?_
  refine lv_bipush (v := 32) hx hb dX3_of_2 (by decide) ?_
  refine lv_lshl (v := (xm_l (Int32.toInt64 u) 32)) hx hb dX3_of_4 rfl ?_
  refine lv_iload_n hx hb dX3_of_5 rfl (lv_at hl 1 rfl) ?_
  refine lv_i2l (v := (Int32.toInt64 w)) hx hb dX3_of_6 rfl ?_
  refine lv_ldc2 (v := 4294967295) hx hb hown kc_59 dX3_of_7 ?_
  refine lv_land hx hb dX3_of_10 ?_
  refine lv_lor hx hb dX3_of_11 ?_
  exact ret _ _ _ _ _ rfl hS dX3_of_12
abbrev rm_X3_right : Room := { frames := 0, cells := 0, slots := 0, locals := 0 }
set_option maxHeartbeats 4000000 in
set_option maxRecDepth 100000 in
theorem c_X3_right (l : Launch) (D : va_G) (v : Int64) (n : Int32) : xk_pL l yX3_right wsX3_right rm_X3_right [.long v, .int n] (mo_right v n) := by
  refine xk_entPL (cc := cX3_right) (maxL := 4) (D := D) (cl := classes) (by decide) rfl (Nat.le_of_ble_eq_true rfl) ?_
  intro p e s m args below meth co Q A ls hx hb hml hts hown hP hS ret hl
  have hl : lv_has ls 4 [(0, .long v), (2, .int n)] := hl
  refine lv_iload_n hx hb dX3_right_0 rfl (lv_at hl 1 rfl) ?_
  refine lv_bipush (v := 63) hx hb dX3_right_1 (by decide) ?_
  refine lv_iand hx hb dX3_right_3 ?_
  refine lv_istore_n (lv' := [(3, .int (n &&& 63)), (0, .long v), (2, .int n)]) hx hb dX3_right_4 rfl hl (by decide) rfl (fun ls hl => ?_)
  refine lv_iload_n hx hb dX3_right_5 rfl (lv_at hl 0 rfl) ?_
  refine lv_if_ne (tgt := 13) hx hb dX3_right_6 (by decide) (fun c1 => ?_) (fun c1 => ?_)
  · refine lv_lload_n hx hb dX3_right_13 rfl (lv_at hl 1 rfl) ?_
    refine lv_iload_n hx hb dX3_right_14 rfl (lv_at hl 0 rfl) ?_
    refine lv_lushr (v := (xm_u v (n &&& 63))) hx hb dX3_right_15 rfl ?_
    refine lv_lload_n hx hb dX3_right_16 rfl (lv_at hl 1 rfl) ?_
    refine lv_bipush (v := 64) hx hb dX3_right_17 (by decide) ?_
    refine lv_iload_n hx hb dX3_right_19 rfl (lv_at hl 0 rfl) ?_
    refine lv_isub hx hb dX3_right_20 ?_
    refine lv_lshl (v := (xm_l v (64 - (n &&& 63)))) hx hb dX3_right_21 rfl ?_
    refine lv_lor hx hb dX3_right_22 ?_
    exact ret _ _ _ _ _ (if_neg c1).symm hS dX3_right_23
  · refine lv_lload_n hx hb dX3_right_9 rfl (lv_at hl 1 rfl) ?_
    refine lv_goto (tgt := 23) hx hb dX3_right_10 (by decide) ?_
    exact ret _ _ _ _ _ (if_pos c1).symm hS dX3_right_23
abbrev rm_X3_left : Room := { frames := 1, cells := 0, slots := 0, locals := 23 }
set_option maxHeartbeats 4000000 in
set_option maxRecDepth 100000 in
theorem c_X3_left (l : Launch) (D : va_G) (v : Int64) (n : Int32) : xk_pL l yX3_left wsX3_left rm_X3_left [.long v, .int n] (mo_left v n) := by
  refine xk_entPL (cc := cX3_left) (maxL := 3) (D := D) (cl := classes) (by decide) rfl (Nat.le_of_ble_eq_true rfl) ?_
  intro p e s m args below meth co Q A ls hx hb hml hts hown hP hS ret hl
  have hl : lv_has ls 3 [(0, .long v), (2, .int n)] := hl
  refine lv_lload_n hx hb dX3_left_0 rfl (lv_at hl 0 rfl) ?_
  refine lv_bipush (v := 64) hx hb dX3_left_1 (by decide) ?_
  refine lv_iload_n hx hb dX3_left_3 rfl (lv_at hl 1 rfl) ?_
  refine lv_isub hx hb dX3_left_4 ?_
  refine xk_goPL (r := (mo_right v (64 - n))) (va_runS (As := [.long v, .int (64 - n)]) (rest := []) ⟨hx, hb, hml, hown, hts⟩ (c_X3_right l D v (64 - n)) (va_cwS 2 hts gX3_left_X3_right rfl rfl rfl (by decide +kernel) ⟨Nat.le_of_ble_eq_true rfl, Nat.le_of_ble_eq_true rfl⟩) preEq rfl rfl hl.1 rfl (lv_room (Nat.le_of_ble_eq_true rfl)) dX3_left_5 ⟨Nat.le_of_ble_eq_true rfl, Nat.le_of_ble_eq_true rfl⟩) hP hS (fun H locs hP hS => ?_)
  exact ret _ _ _ _ _ rfl hS dX3_left_8
abbrev rm_X3_isPrime : Room := { frames := 0, cells := 0, slots := 0, locals := 0 }
set_option maxHeartbeats 4000000 in
set_option maxRecDepth 100000 in
theorem c_X3_isPrime (l : Launch) (D : va_G) (n : Nat) (hn : n < 1000) : xk_pI l yX3_isPrime wsX3_isPrime rm_X3_isPrime [.int (nI n)] (xb_I (mo_prime n)) := by
  refine xk_entPZ (cc := cX3_isPrime) (maxL := 2) (D := D) (cl := classes) (by decide) rfl (Nat.le_of_ble_eq_true rfl) (by unfold xb_I; split <;> simp) ?_
  intro p e s m args below meth co Q A ls hx hb hml hts hown hP hS ret hl
  have hl : lv_has ls 2 [(0, .int (nI n))] := hl
  refine lv_iconst (v := 2) hx hb dX3_isPrime_0 (by decide) ?_
  refine lv_istore_n (lv' := [(1, .int 2), (0, .int (nI n))]) hx hb dX3_isPrime_1 rfl hl (by decide) rfl (fun ls hl => ?_)
  have loopA : ∀ (d : Nat) (k : Nat), (hk : 2 ≤ k) → (hd : k + d = n + 2) → (hr : xb_I (mo_pl n d k) = xb_I (mo_prime n)) → ∀ (H : Heap) (locs : List Loc) (ls : Array Slot), va_P D classes [] H → va_S A s.heap H locs → lv_has ls 2 [(0, .int (nI n)), (1, .int (nI k))] → W p l e rm_X3_isPrime s m args below meth co H locs 0 0 Q (F0 m 2 ls []) := by
    intro d
    induction d with
    | zero =>
      intro k hk hd hr H locs ls hP hS hl
      have hkk : n < k * k := Nat.lt_of_lt_of_le (show n < k by omega) (Nat.le_mul_of_pos_left k (by omega))
      have hk2 : k * k ≤ 1002 * 1002 := Nat.mul_le_mul (by omega) (by omega)
      refine lv_iload_n hx hb dX3_isPrime_2 rfl (lv_at hl 1 rfl) ?_
      refine lv_iload_n hx hb dX3_isPrime_3 rfl (lv_at hl 1 rfl) ?_
      refine xk_imulN hx hb k k (k * k) rfl rfl (by omega) dX3_isPrime_4 ?_
      refine lv_iload_n hx hb dX3_isPrime_5 rfl (lv_at hl 0 rfl) ?_
      refine lv_icmp_gt (tgt := 23) hx hb dX3_isPrime_6 (by decide) (fun c => ?_) (fun c => ?_)
      · refine lv_iconst (v := 1) hx hb dX3_isPrime_23 (by decide) ?_
        exact ret _ _ _ _ _ hr hS dX3_isPrime_24
      · exact absurd (nI_lt (a := n) (b := (k * k)) (by omega) (by omega)) c
    | succ d ihloopA =>
      intro k hk hd hr H locs ls hP hS hl
      have hk2 : k * k ≤ 1002 * 1002 := Nat.mul_le_mul (by omega) (by omega)
      refine lv_iload_n hx hb dX3_isPrime_2 rfl (lv_at hl 1 rfl) ?_
      refine lv_iload_n hx hb dX3_isPrime_3 rfl (lv_at hl 1 rfl) ?_
      refine xk_imulN hx hb k k (k * k) rfl rfl (by omega) dX3_isPrime_4 ?_
      refine lv_iload_n hx hb dX3_isPrime_5 rfl (lv_at hl 0 rfl) ?_
      refine lv_icmp_gt (tgt := 23) hx hb dX3_isPrime_6 (by decide) (fun c1 => ?_) (fun c1 => ?_)
      · have c2 : ¬ k * k ≤ n := Nat.not_le_of_lt ((nI_ltI (by omega) (by omega)).mp c1)
        rw [show mo_pl n (d + 1) k = _ from if_neg c2] at hr
        refine lv_iconst (v := 1) hx hb dX3_isPrime_23 (by decide) ?_
        exact ret _ _ _ _ _ hr hS dX3_isPrime_24
      · have c2 : k * k ≤ n := Nat.not_lt.mp (fun h => c1 (nI_lt h (by omega)))
        rw [show mo_pl n (d + 1) k = _ from if_pos c2] at hr
        refine lv_iload_n hx hb dX3_isPrime_9 rfl (lv_at hl 0 rfl) ?_
        refine lv_iload_n hx hb dX3_isPrime_10 rfl (lv_at hl 1 rfl) ?_
        refine xk_iremN hx hb n k (n % k) rfl rfl (by omega) (by omega) (by omega) rfl dX3_isPrime_11 ?_
        refine lv_if_ne (tgt := 17) hx hb dX3_isPrime_12 (by decide) (fun c3 => ?_) (fun c3 => ?_)
        · have c4 : ¬ n % k = 0 := fun h => c3 (by rw [h]; rfl)
          rw [if_neg c4] at hr
          refine lv_iinc (v := nI (k + 1)) (lv' := [(1, .int (nI (k + 1))), (0, .int (nI n))]) hx hb dX3_isPrime_17 hl (k := 1) rfl (xk_i1 (by omega)) (by decide) rfl (fun ls hl => ?_)
          refine lv_goto (tgt := 2) hx hb dX3_isPrime_20 (by decide) ?_
          exact ihloopA (k + 1) (by omega) (by omega) hr _ _ _ hP hS (lv_sub hl [1, 0] rfl)
        · have c4 : n % k = 0 := (nI_eq (a := n % k) (b := 0) (Nat.lt_of_le_of_lt (Nat.mod_le _ _) (by omega)) (by omega)).mp c3
          rw [if_pos c4] at hr
          refine lv_iconst (v := 0) hx hb dX3_isPrime_15 (by decide) ?_
          exact ret _ _ _ _ _ hr hS dX3_isPrime_16
  exact loopA n 2 (by omega) (by omega) rfl _ _ _ hP hS (lv_sub hl [1, 0] rfl)
abbrev rm_X3_add64Lo : Room := { frames := 1, cells := 0, slots := 0, locals := 21 }
set_option maxHeartbeats 4000000 in
set_option maxRecDepth 100000 in
theorem c_X3_add64Lo (l : Launch) (D : va_G) (h0 : Nat) (a1 : Int32) (a2 : Int32) (a3 : Int32) (a4 : Int32) : xk_pI l yX3_add64Lo wsX3_add64Lo rm_X3_add64Lo [.ref h0, .int a1, .int a2, .int a3, .int a4] (Int64.toInt32 (mo_of a1 a2 + mo_of a3 a4)) := by
  refine xk_entPI (cc := cX3_add64Lo) (maxL := 5) (D := D) (cl := classes) (by decide) rfl (Nat.le_of_ble_eq_true rfl) ?_
  intro p e s m args below meth co Q A ls hx hb hml hts hown hP hS ret hl
  have hl : lv_has ls 5 [(0, .ref h0), (1, .int a1), (2, .int a2), (3, .int a3), (4, .int a4)] := hl
  refine lv_iload_n hx hb dX3_add64Lo_0 rfl (lv_at hl 1 rfl) ?_
  refine lv_iload_n hx hb dX3_add64Lo_1 rfl (lv_at hl 2 rfl) ?_
  refine xk_goPL (r := (mo_of a1 a2)) (va_runS (As := [.int a1, .int a2]) (rest := []) ⟨hx, hb, hml, hown, hts⟩ (c_X3_of l D a1 a2) (va_cwS 2 hts gX3_add64Lo_X3_of rfl rfl rfl (by decide +kernel) ⟨Nat.le_of_ble_eq_true rfl, Nat.le_of_ble_eq_true rfl⟩) preEq rfl rfl hl.1 rfl (lv_room (Nat.le_of_ble_eq_true rfl)) dX3_add64Lo_2 ⟨Nat.le_of_ble_eq_true rfl, Nat.le_of_ble_eq_true rfl⟩) hP hS (fun H locs hP hS => ?_)
  refine lv_iload_n hx hb dX3_add64Lo_5 rfl (lv_at hl 3 rfl) ?_
  refine lv_iload hx hb dX3_add64Lo_6 (lv_at hl 4 rfl) ?_
  refine xk_goPL (r := (mo_of a3 a4)) (va_runS (As := [.int a3, .int a4]) (rest := [.long (mo_of a1 a2)]) ⟨hx, hb, hml, hown, hts⟩ (c_X3_of l D a3 a4) (va_cwS 2 hts gX3_add64Lo_X3_of rfl rfl rfl (by decide +kernel) ⟨Nat.le_of_ble_eq_true rfl, Nat.le_of_ble_eq_true rfl⟩) preEq rfl rfl hl.1 rfl (lv_room (Nat.le_of_ble_eq_true rfl)) dX3_add64Lo_8 ⟨Nat.le_of_ble_eq_true rfl, Nat.le_of_ble_eq_true rfl⟩) hP hS (fun H locs hP hS => ?_)
  refine lv_ladd hx hb dX3_add64Lo_11 ?_
  refine lv_l2i (v := (Int64.toInt32 ((mo_of a1 a2) + (mo_of a3 a4)))) hx hb dX3_add64Lo_12 rfl ?_
  exact ret _ _ _ _ _ rfl hS dX3_add64Lo_13
abbrev rm_X3_add64Hi : Room := { frames := 1, cells := 0, slots := 0, locals := 21 }
set_option maxHeartbeats 4000000 in
set_option maxRecDepth 100000 in
theorem c_X3_add64Hi (l : Launch) (D : va_G) (h0 : Nat) (a1 : Int32) (a2 : Int32) (a3 : Int32) (a4 : Int32) : xk_pI l yX3_add64Hi wsX3_add64Hi rm_X3_add64Hi [.ref h0, .int a1, .int a2, .int a3, .int a4] (Int64.toInt32 (xm_r (mo_of a1 a2 + mo_of a3 a4) 32)) := by
  refine xk_entPI (cc := cX3_add64Hi) (maxL := 5) (D := D) (cl := classes) (by decide) rfl (Nat.le_of_ble_eq_true rfl) ?_
  intro p e s m args below meth co Q A ls hx hb hml hts hown hP hS ret hl
  have hl : lv_has ls 5 [(0, .ref h0), (1, .int a1), (2, .int a2), (3, .int a3), (4, .int a4)] := hl
  refine lv_iload_n hx hb dX3_add64Hi_0 rfl (lv_at hl 1 rfl) ?_
  refine lv_iload_n hx hb dX3_add64Hi_1 rfl (lv_at hl 2 rfl) ?_
  refine xk_goPL (r := (mo_of a1 a2)) (va_runS (As := [.int a1, .int a2]) (rest := []) ⟨hx, hb, hml, hown, hts⟩ (c_X3_of l D a1 a2) (va_cwS 2 hts gX3_add64Hi_X3_of rfl rfl rfl (by decide +kernel) ⟨Nat.le_of_ble_eq_true rfl, Nat.le_of_ble_eq_true rfl⟩) preEq rfl rfl hl.1 rfl (lv_room (Nat.le_of_ble_eq_true rfl)) dX3_add64Hi_2 ⟨Nat.le_of_ble_eq_true rfl, Nat.le_of_ble_eq_true rfl⟩) hP hS (fun H locs hP hS => ?_)
  refine lv_iload_n hx hb dX3_add64Hi_5 rfl (lv_at hl 3 rfl) ?_
  refine lv_iload hx hb dX3_add64Hi_6 (lv_at hl 4 rfl) ?_
  refine xk_goPL (r := (mo_of a3 a4)) (va_runS (As := [.int a3, .int a4]) (rest := [.long (mo_of a1 a2)]) ⟨hx, hb, hml, hown, hts⟩ (c_X3_of l D a3 a4) (va_cwS 2 hts gX3_add64Hi_X3_of rfl rfl rfl (by decide +kernel) ⟨Nat.le_of_ble_eq_true rfl, Nat.le_of_ble_eq_true rfl⟩) preEq rfl rfl hl.1 rfl (lv_room (Nat.le_of_ble_eq_true rfl)) dX3_add64Hi_8 ⟨Nat.le_of_ble_eq_true rfl, Nat.le_of_ble_eq_true rfl⟩) hP hS (fun H locs hP hS => ?_)
  refine lv_ladd hx hb dX3_add64Hi_11 ?_
  refine lv_bipush (v := 32) hx hb dX3_add64Hi_12 (by decide) ?_
  refine lv_lshr (v := (xm_r ((mo_of a1 a2) + (mo_of a3 a4)) 32)) hx hb dX3_add64Hi_14 rfl ?_
  refine lv_l2i (v := (Int64.toInt32 (xm_r ((mo_of a1 a2) + (mo_of a3 a4)) 32))) hx hb dX3_add64Hi_15 rfl ?_
  exact ret _ _ _ _ _ rfl hS dX3_add64Hi_16
abbrev rm_X3_rotr64Hi : Room := { frames := 1, cells := 0, slots := 0, locals := 23 }
set_option maxHeartbeats 4000000 in
set_option maxRecDepth 100000 in
theorem c_X3_rotr64Hi (l : Launch) (D : va_G) (h0 : Nat) (a1 : Int32) (a2 : Int32) (a3 : Int32) : xk_pI l yX3_rotr64Hi wsX3_rotr64Hi rm_X3_rotr64Hi [.ref h0, .int a1, .int a2, .int a3] (Int64.toInt32 (xm_r (mo_right (mo_of a1 a2) a3) 32)) := by
  refine xk_entPI (cc := cX3_rotr64Hi) (maxL := 4) (D := D) (cl := classes) (by decide) rfl (Nat.le_of_ble_eq_true rfl) ?_
  intro p e s m args below meth co Q A ls hx hb hml hts hown hP hS ret hl
  have hl : lv_has ls 4 [(0, .ref h0), (1, .int a1), (2, .int a2), (3, .int a3)] := hl
  refine lv_iload_n hx hb dX3_rotr64Hi_0 rfl (lv_at hl 1 rfl) ?_
  refine lv_iload_n hx hb dX3_rotr64Hi_1 rfl (lv_at hl 2 rfl) ?_
  refine xk_goPL (r := (mo_of a1 a2)) (va_runS (As := [.int a1, .int a2]) (rest := []) ⟨hx, hb, hml, hown, hts⟩ (c_X3_of l D a1 a2) (va_cwS 2 hts gX3_rotr64Hi_X3_of rfl rfl rfl (by decide +kernel) ⟨Nat.le_of_ble_eq_true rfl, Nat.le_of_ble_eq_true rfl⟩) preEq rfl rfl hl.1 rfl (lv_room (Nat.le_of_ble_eq_true rfl)) dX3_rotr64Hi_2 ⟨Nat.le_of_ble_eq_true rfl, Nat.le_of_ble_eq_true rfl⟩) hP hS (fun H locs hP hS => ?_)
  refine lv_iload_n hx hb dX3_rotr64Hi_5 rfl (lv_at hl 3 rfl) ?_
  refine xk_goPL (r := (mo_right (mo_of a1 a2) a3)) (va_runS (As := [.long (mo_of a1 a2), .int a3]) (rest := []) ⟨hx, hb, hml, hown, hts⟩ (c_X3_right l D (mo_of a1 a2) a3) (va_cwS 2 hts gX3_rotr64Hi_X3_right rfl rfl rfl (by decide +kernel) ⟨Nat.le_of_ble_eq_true rfl, Nat.le_of_ble_eq_true rfl⟩) preEq rfl rfl hl.1 rfl (lv_room (Nat.le_of_ble_eq_true rfl)) dX3_rotr64Hi_6 ⟨Nat.le_of_ble_eq_true rfl, Nat.le_of_ble_eq_true rfl⟩) hP hS (fun H locs hP hS => ?_)
  refine lv_bipush (v := 32) hx hb dX3_rotr64Hi_9 (by decide) ?_
  refine lv_lshr (v := (xm_r (mo_right (mo_of a1 a2) a3) 32)) hx hb dX3_rotr64Hi_11 rfl ?_
  refine lv_l2i (v := (Int64.toInt32 (xm_r (mo_right (mo_of a1 a2) a3) 32))) hx hb dX3_rotr64Hi_12 rfl ?_
  exact ret _ _ _ _ _ rfl hS dX3_rotr64Hi_13
abbrev rm_X3_rotr64Lo : Room := { frames := 1, cells := 0, slots := 0, locals := 23 }
set_option maxHeartbeats 4000000 in
set_option maxRecDepth 100000 in
theorem c_X3_rotr64Lo (l : Launch) (D : va_G) (h0 : Nat) (a1 : Int32) (a2 : Int32) (a3 : Int32) : xk_pI l yX3_rotr64Lo wsX3_rotr64Lo rm_X3_rotr64Lo [.ref h0, .int a1, .int a2, .int a3] (Int64.toInt32 (mo_right (mo_of a1 a2) a3)) := by
  refine xk_entPI (cc := cX3_rotr64Lo) (maxL := 4) (D := D) (cl := classes) (by decide) rfl (Nat.le_of_ble_eq_true rfl) ?_
  intro p e s m args below meth co Q A ls hx hb hml hts hown hP hS ret hl
  have hl : lv_has ls 4 [(0, .ref h0), (1, .int a1), (2, .int a2), (3, .int a3)] := hl
  refine lv_iload_n hx hb dX3_rotr64Lo_0 rfl (lv_at hl 1 rfl) ?_
  refine lv_iload_n hx hb dX3_rotr64Lo_1 rfl (lv_at hl 2 rfl) ?_
  refine xk_goPL (r := (mo_of a1 a2)) (va_runS (As := [.int a1, .int a2]) (rest := []) ⟨hx, hb, hml, hown, hts⟩ (c_X3_of l D a1 a2) (va_cwS 2 hts gX3_rotr64Lo_X3_of rfl rfl rfl (by decide +kernel) ⟨Nat.le_of_ble_eq_true rfl, Nat.le_of_ble_eq_true rfl⟩) preEq rfl rfl hl.1 rfl (lv_room (Nat.le_of_ble_eq_true rfl)) dX3_rotr64Lo_2 ⟨Nat.le_of_ble_eq_true rfl, Nat.le_of_ble_eq_true rfl⟩) hP hS (fun H locs hP hS => ?_)
  refine lv_iload_n hx hb dX3_rotr64Lo_5 rfl (lv_at hl 3 rfl) ?_
  refine xk_goPL (r := (mo_right (mo_of a1 a2) a3)) (va_runS (As := [.long (mo_of a1 a2), .int a3]) (rest := []) ⟨hx, hb, hml, hown, hts⟩ (c_X3_right l D (mo_of a1 a2) a3) (va_cwS 2 hts gX3_rotr64Lo_X3_right rfl rfl rfl (by decide +kernel) ⟨Nat.le_of_ble_eq_true rfl, Nat.le_of_ble_eq_true rfl⟩) preEq rfl rfl hl.1 rfl (lv_room (Nat.le_of_ble_eq_true rfl)) dX3_rotr64Lo_6 ⟨Nat.le_of_ble_eq_true rfl, Nat.le_of_ble_eq_true rfl⟩) hP hS (fun H locs hP hS => ?_)
  refine lv_l2i (v := (Int64.toInt32 (mo_right (mo_of a1 a2) a3))) hx hb dX3_rotr64Lo_9 rfl ?_
  exact ret _ _ _ _ _ rfl hS dX3_rotr64Lo_10
