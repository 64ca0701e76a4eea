abbrev rm_X2_carry : Room := { frames := 0, cells := 0, slots := 0, locals := 0 }
set_option maxHeartbeats 4000000 in
set_option maxRecDepth 100000 in
theorem c_X2_carry (l : Launch) (D : va_G) (a : Int32) (b : Int32) : xk_pI l yX2_carry wsX2_carry rm_X2_carry [.int a, .int b] (jc_carry a b) := by
  refine xk_entPI (cc := cX2_carry) (maxL := 2) (D := D) (cl := classes) (by decide) rfl (Nat.le_of_ble_eq_true rfl) ?_
  intro p e s m args below meth co Q A ls hx hb hml hts hown hP hS ret hl
  have hl : lv_has ls 2 [(0, .int a), (1, .int b)] := hl
  refine lv_iload_n hx hb dX2_carry_0 rfl (lv_at hl 0 rfl) ?_
  refine lv_iload_n hx hb dX2_carry_1 rfl (lv_at hl 1 rfl) ?_
  refine lv_iand hx hb dX2_carry_2 ?_
  refine lv_iload_n hx hb dX2_carry_3 rfl (lv_at hl 0 rfl) ?_
  refine lv_iload_n hx hb dX2_carry_4 rfl (lv_at hl 1 rfl) ?_
  refine lv_ior hx hb dX2_carry_5 ?_
  refine lv_iload_n hx hb dX2_carry_6 rfl (lv_at hl 0 rfl) ?_
  refine lv_iload_n hx hb dX2_carry_7 rfl (lv_at hl 1 rfl) ?_
  refine lv_iadd hx hb dX2_carry_8 ?_
  refine lv_iconst (v := (-1)) hx hb dX2_carry_9 (by decide) ?_
  refine lv_ixor hx hb dX2_carry_10 ?_
  refine lv_iand hx hb dX2_carry_11 ?_
  refine lv_ior hx hb dX2_carry_12 ?_
  refine lv_bipush (v := 31) hx hb dX2_carry_13 (by decide) ?_
  refine lv_iushr (v := (xj_u ((a &&& b) ||| ((a ||| b) &&& ((a + b) ^^^ (-1)))) 31)) hx hb dX2_carry_15 rfl ?_
  exact ret _ _ _ _ _ rfl hS dX2_carry_16
abbrev rm_X2_turned : Room := { frames := 0, cells := 0, slots := 0, locals := 0 }
set_option maxHeartbeats 4000000 in
set_option maxRecDepth 100000 in
theorem c_X2_turned (l : Launch) (D : va_G) (u : Int32) (w : Int32) (n : Int32) : xk_pI l yX2_turned wsX2_turned rm_X2_turned [.int u, .int w, .int n] (jc_turned u w n) := by
  refine xk_entPI (cc := cX2_turned) (maxL := 6) (D := D) (cl := classes) (by decide) rfl (Nat.le_of_ble_eq_true rfl) ?_
  intro p e s m args below meth co Q A ls hx hb hml hts hown hP hS ret hl
  have hl : lv_has ls 6 [(0, .int u), (1, .int w), (2, .int n)] := hl
  refine lv_iload_n hx hb dX2_turned_0 rfl (lv_at hl 2 rfl) ?_
  refine lv_bipush (v := 32) hx hb dX2_turned_1 (by decide) ?_
  refine lv_iand hx hb dX2_turned_3 ?_
  refine lv_if_ne (tgt := 11) hx hb dX2_turned_4 (by decide) (fun c1 => ?_) (fun c1 => ?_)
  · refine lv_iload_n hx hb dX2_turned_11 rfl (lv_at hl 0 rfl) ?_
    refine lv_istore_n (lv' := [(3, .int u), (0, .int u), (1, .int w), (2, .int n)]) hx hb dX2_turned_12 rfl hl (by decide) rfl (fun ls hl => ?_)
    refine lv_iload_n hx hb dX2_turned_13 rfl (lv_at hl 3 rfl) ?_
    refine lv_bipush (v := 32) hx hb dX2_turned_14 (by decide) ?_
    refine lv_iand hx hb dX2_turned_16 ?_
    refine lv_if_ne (tgt := 24) hx hb dX2_turned_17 (by decide) (fun c2 => ?_) (fun c2 => ?_)
    · refine lv_iload_n hx hb dX2_turned_24 rfl (lv_at hl 2 rfl) ?_
      refine lv_istore (lv' := [(4, .int w), (3, .int u), (0, .int u), (1, .int w), (2, .int n)]) hx hb dX2_turned_25 hl (by decide) rfl (fun ls hl => ?_)
      refine lv_iload_n hx hb dX2_turned_27 rfl (lv_at hl 4 rfl) ?_
      refine lv_bipush (v := 31) hx hb dX2_turned_28 (by decide) ?_
      refine lv_iand hx hb dX2_turned_30 ?_
      refine lv_istore (lv' := [(5, .int (n &&& 31)), (4, .int w), (3, .int u), (0, .int u), (1, .int w), (2, .int n)]) hx hb dX2_turned_31 hl (by decide) rfl (fun ls hl => ?_)
      refine lv_iload hx hb dX2_turned_33 (lv_at hl 1 rfl) ?_
      refine lv_iload hx hb dX2_turned_35 (lv_at hl 0 rfl) ?_
      refine lv_iushr (v := (xj_u w (n &&& 31))) hx hb dX2_turned_37 rfl ?_
      refine lv_iload_n hx hb dX2_turned_38 rfl (lv_at hl 2 rfl) ?_
      refine lv_iconst (v := 1) hx hb dX2_turned_39 (by decide) ?_
      refine lv_ishl hx hb dX2_turned_40 ?_
      refine lv_bipush (v := 31) hx hb dX2_turned_41 (by decide) ?_
      refine lv_iload hx hb dX2_turned_43 (lv_at hl 0 rfl) ?_
      refine lv_isub hx hb dX2_turned_45 ?_
      refine lv_ishl hx hb dX2_turned_46 ?_
      refine lv_ior hx hb dX2_turned_47 ?_
      exact ret _ _ _ _ _ (if_neg c1).symm hS dX2_turned_48
    · exact absurd c2 c1
  · refine lv_iload_n hx hb dX2_turned_7 rfl (lv_at hl 1 rfl) ?_
    refine lv_goto (tgt := 12) hx hb dX2_turned_8 (by decide) ?_
    refine lv_istore_n (lv' := [(3, .int w), (0, .int u), (1, .int w), (2, .int n)]) hx hb dX2_turned_12 rfl hl (by decide) rfl (fun ls hl => ?_)
    refine lv_iload_n hx hb dX2_turned_13 rfl (lv_at hl 3 rfl) ?_
    refine lv_bipush (v := 32) hx hb dX2_turned_14 (by decide) ?_
    refine lv_iand hx hb dX2_turned_16 ?_
    refine lv_if_ne (tgt := 24) hx hb dX2_turned_17 (by decide) (fun c2 => ?_) (fun c2 => ?_)
    · exact absurd c1 c2
    · refine lv_iload_n hx hb dX2_turned_20 rfl (lv_at hl 1 rfl) ?_
      refine lv_goto (tgt := 25) hx hb dX2_turned_21 (by decide) ?_
      refine lv_istore (lv' := [(4, .int u), (3, .int w), (0, .int u), (1, .int w), (2, .int n)]) hx hb dX2_turned_25 hl (by decide) rfl (fun ls hl => ?_)
      refine lv_iload_n hx hb dX2_turned_27 rfl (lv_at hl 4 rfl) ?_
      refine lv_bipush (v := 31) hx hb dX2_turned_28 (by decide) ?_
      refine lv_iand hx hb dX2_turned_30 ?_
      refine lv_istore (lv' := [(5, .int (n &&& 31)), (4, .int u), (3, .int w), (0, .int u), (1, .int w), (2, .int n)]) hx hb dX2_turned_31 hl (by decide) rfl (fun ls hl => ?_)
      refine lv_iload hx hb dX2_turned_33 (lv_at hl 1 rfl) ?_
      refine lv_iload hx hb dX2_turned_35 (lv_at hl 0 rfl) ?_
      refine lv_iushr (v := (xj_u u (n &&& 31))) hx hb dX2_turned_37 rfl ?_
      refine lv_iload_n hx hb dX2_turned_38 rfl (lv_at hl 2 rfl) ?_
      refine lv_iconst (v := 1) hx hb dX2_turned_39 (by decide) ?_
      refine lv_ishl hx hb dX2_turned_40 ?_
      refine lv_bipush (v := 31) hx hb dX2_turned_41 (by decide) ?_
      refine lv_iload hx hb dX2_turned_43 (lv_at hl 0 rfl) ?_
      refine lv_isub hx hb dX2_turned_45 ?_
      refine lv_ishl hx hb dX2_turned_46 ?_
      refine lv_ior hx hb dX2_turned_47 ?_
      exact ret _ _ _ _ _ (if_pos c1).symm hS dX2_turned_48
abbrev rm_X2_wordsOf : Room := { frames := 0, cells := 0, slots := 0, locals := 0 }
set_option maxHeartbeats 4000000 in
set_option maxRecDepth 100000 in
theorem c_X2_wordsOf (l : Launch) (D : va_G) (k : Int32) : xk_pI l yX2_wordsOf wsX2_wordsOf rm_X2_wordsOf [.int k] (jc_words k) := by
  refine xk_entPI (cc := cX2_wordsOf) (maxL := 1) (D := D) (cl := classes) (by decide) rfl (Nat.le_of_ble_eq_true rfl) ?_
  intro p e s m args below meth co Q A ls hx hb hml hts hown hP hS ret hl
  have hl : lv_has ls 1 [(0, .int k)] := hl
  refine lv_iload_n hx hb dX2_wordsOf_0 rfl (lv_at hl 0 rfl) ?_
  by_cases h1 : k = 1
  · subst h1
    refine lv_tableIn (tgt := 28) hx hb dX2_wordsOf_1 (by decide) (by decide) rfl (by decide) ?_
    refine lv_bipush (v := 16) hx hb dX2_wordsOf_28 (by decide) ?_
    exact ret _ _ _ _ _ rfl hS dX2_wordsOf_30
  · by_cases h2 : k = 2
    · subst h2
      refine lv_tableIn (tgt := 31) hx hb dX2_wordsOf_1 (by decide) (by decide) rfl (by decide) ?_
      refine lv_bipush (v := 12) hx hb dX2_wordsOf_31 (by decide) ?_
      exact ret _ _ _ _ _ rfl hS dX2_wordsOf_33
    · by_cases h3 : k = 3
      · subst h3
        refine lv_tableIn (tgt := 34) hx hb dX2_wordsOf_1 (by decide) (by decide) rfl (by decide) ?_
        refine lv_iconst (v := 2) hx hb dX2_wordsOf_34 (by decide) ?_
        exact ret _ _ _ _ _ rfl hS dX2_wordsOf_35
      · refine lv_tableOut (tgt := 36) hx hb dX2_wordsOf_1 (by have a1 := lv_neT h1 (show (1 : Int32).toInt = 1 by decide); have a2 := lv_neT h2 (show (2 : Int32).toInt = 2 by decide); have a3 := lv_neT h3 (show (3 : Int32).toInt = 3 by decide); omega) (by decide) ?_
        refine lv_iconst (v := 0) hx hb dX2_wordsOf_36 (by decide) ?_
        exact ret _ _ _ _ _ (by unfold jc_words; rw [if_neg h1, if_neg h2, if_neg h3]) hS dX2_wordsOf_37
abbrev rm_X0_turnsOfA : Room := { frames := 1, cells := 0, slots := 0, locals := 25 }
set_option maxHeartbeats 4000000 in
set_option maxRecDepth 100000 in
theorem c_X0_turnsOfA (l : Launch) (D : va_G) (cI cL : ClassId) (sz : Nat) (u : Int32) (w : Int32) : xk_I l yX0_turnsOfA wsX0_turnsOfA rm_X0_turnsOfA xs_X D classes [(cI, .int), (cL, .long)] [.int u, .int w] [] [] (jc_SA u w) sz := by
  refine xk_entI (cc := cX0_turnsOfA) (maxL := 2) (by decide) rfl (Nat.le_of_ble_eq_true rfl) ?_
  intro p e s m args below meth co Q A ls hx hb hml hts hown hA hK hP hD hS hX ret hl
  have hl : lv_has ls 2 [(0, .int u), (1, .int w)] := hl
  have in_X2 := hts (.initialized RX2) (by decide +kernel)
  have sm_51 := hts (.static yX2_turned) (by decide +kernel)
  refine lv_iload_n hx hb dX0_turnsOfA_0 rfl (lv_at hl 0 rfl) ?_
  refine lv_iload_n hx hb dX0_turnsOfA_1 rfl (lv_at hl 1 rfl) ?_
  refine lv_bipush (v := 28) hx hb dX0_turnsOfA_2 (by decide) ?_
  refine xk_goPI (r := (jc_turned u w 28)) (va_runSN (As := [.int u, .int w, .int 28]) (rest := []) ⟨hx, hb, hml, hown, hts⟩ (c_X2_turned l D u w 28) ⟨va_cnB 3 hts gX0_turnsOfA_X2_turned_n51 rfl rfl rfl (xs_n0_51 hX) in_X2 (by decide +kernel) ⟨Nat.le_of_ble_eq_true rfl, Nat.le_of_ble_eq_true rfl⟩, sm_51, trivial⟩ preEq rfl rfl hl.1 rfl (lv_room (Nat.le_of_ble_eq_true rfl)) dX0_turnsOfA_4 ⟨Nat.le_of_ble_eq_true rfl, Nat.le_of_ble_eq_true rfl⟩) hP hS (fun H locs hP hS => ?_)
  refine lv_iload_n hx hb dX0_turnsOfA_7 rfl (lv_at hl 0 rfl) ?_
  refine lv_iload_n hx hb dX0_turnsOfA_8 rfl (lv_at hl 1 rfl) ?_
  refine lv_bipush (v := 34) hx hb dX0_turnsOfA_9 (by decide) ?_
  refine xk_goPI (r := (jc_turned u w 34)) (va_runSN (As := [.int u, .int w, .int 34]) (rest := [.int (jc_turned u w 28)]) ⟨hx, hb, hml, hown, hts⟩ (c_X2_turned l D u w 34) ⟨va_cnB 3 hts gX0_turnsOfA_X2_turned_n51 rfl rfl rfl (xs_n0_51 hX) in_X2 (by decide +kernel) ⟨Nat.le_of_ble_eq_true rfl, Nat.le_of_ble_eq_true rfl⟩, sm_51, trivial⟩ preEq rfl rfl hl.1 rfl (lv_room (Nat.le_of_ble_eq_true rfl)) dX0_turnsOfA_11 ⟨Nat.le_of_ble_eq_true rfl, Nat.le_of_ble_eq_true rfl⟩) hP hS (fun H locs hP hS => ?_)
  refine lv_ixor hx hb dX0_turnsOfA_14 ?_
  refine lv_iload_n hx hb dX0_turnsOfA_15 rfl (lv_at hl 0 rfl) ?_
  refine lv_iload_n hx hb dX0_turnsOfA_16 rfl (lv_at hl 1 rfl) ?_
  refine lv_bipush (v := 39) hx hb dX0_turnsOfA_17 (by decide) ?_
  refine xk_goPI (r := (jc_turned u w 39)) (va_runSN (As := [.int u, .int w, .int 39]) (rest := [.int ((jc_turned u w 28) ^^^ (jc_turned u w 34))]) ⟨hx, hb, hml, hown, hts⟩ (c_X2_turned l D u w 39) ⟨va_cnB 3 hts gX0_turnsOfA_X2_turned_n51 rfl rfl rfl (xs_n0_51 hX) in_X2 (by decide +kernel) ⟨Nat.le_of_ble_eq_true rfl, Nat.le_of_ble_eq_true rfl⟩, sm_51, trivial⟩ preEq rfl rfl hl.1 rfl (lv_room (Nat.le_of_ble_eq_true rfl)) dX0_turnsOfA_19 ⟨Nat.le_of_ble_eq_true rfl, Nat.le_of_ble_eq_true rfl⟩) hP hS (fun H locs hP hS => ?_)
  refine lv_ixor hx hb dX0_turnsOfA_22 ?_
  exact ret _ _ _ _ _ rfl hP hD hS dX0_turnsOfA_23
abbrev rm_X0_turnsOfE : Room := { frames := 1, cells := 0, slots := 0, locals := 25 }
set_option maxHeartbeats 4000000 in
set_option maxRecDepth 100000 in
theorem c_X0_turnsOfE (l : Launch) (D : va_G) (cI cL : ClassId) (sz : Nat) (u : Int32) (w : Int32) : xk_I l yX0_turnsOfE wsX0_turnsOfE rm_X0_turnsOfE xs_X D classes [(cI, .int), (cL, .long)] [.int u, .int w] [] [] (jc_SE u w) sz := by
  refine xk_entI (cc := cX0_turnsOfE) (maxL := 2) (by decide) rfl (Nat.le_of_ble_eq_true rfl) ?_
  intro p e s m args below meth co Q A ls hx hb hml hts hown hA hK hP hD hS hX ret hl
  have hl : lv_has ls 2 [(0, .int u), (1, .int w)] := hl
  have in_X2 := hts (.initialized RX2) (by decide +kernel)
  have sm_51 := hts (.static yX2_turned) (by decide +kernel)
  refine lv_iload_n hx hb dX0_turnsOfE_0 rfl (lv_at hl 0 rfl) ?_
  refine lv_iload_n hx hb dX0_turnsOfE_1 rfl (lv_at hl 1 rfl) ?_
  refine lv_bipush (v := 14) hx hb dX0_turnsOfE_2 (by decide) ?_
  refine xk_goPI (r := (jc_turned u w 14)) (va_runSN (As := [.int u, .int w, .int 14]) (rest := []) ⟨hx, hb, hml, hown, hts⟩ (c_X2_turned l D u w 14) ⟨va_cnB 3 hts gX0_turnsOfE_X2_turned_n51 rfl rfl rfl (xs_n0_51 hX) in_X2 (by decide +kernel) ⟨Nat.le_of_ble_eq_true rfl, Nat.le_of_ble_eq_true rfl⟩, sm_51, trivial⟩ preEq rfl rfl hl.1 rfl (lv_room (Nat.le_of_ble_eq_true rfl)) dX0_turnsOfE_4 ⟨Nat.le_of_ble_eq_true rfl, Nat.le_of_ble_eq_true rfl⟩) hP hS (fun H locs hP hS => ?_)
  refine lv_iload_n hx hb dX0_turnsOfE_7 rfl (lv_at hl 0 rfl) ?_
  refine lv_iload_n hx hb dX0_turnsOfE_8 rfl (lv_at hl 1 rfl) ?_
  refine lv_bipush (v := 18) hx hb dX0_turnsOfE_9 (by decide) ?_
  refine xk_goPI (r := (jc_turned u w 18)) (va_runSN (As := [.int u, .int w, .int 18]) (rest := [.int (jc_turned u w 14)]) ⟨hx, hb, hml, hown, hts⟩ (c_X2_turned l D u w 18) ⟨va_cnB 3 hts gX0_turnsOfE_X2_turned_n51 rfl rfl rfl (xs_n0_51 hX) in_X2 (by decide +kernel) ⟨Nat.le_of_ble_eq_true rfl, Nat.le_of_ble_eq_true rfl⟩, sm_51, trivial⟩ preEq rfl rfl hl.1 rfl (lv_room (Nat.le_of_ble_eq_true rfl)) dX0_turnsOfE_11 ⟨Nat.le_of_ble_eq_true rfl, Nat.le_of_ble_eq_true rfl⟩) hP hS (fun H locs hP hS => ?_)
  refine lv_ixor hx hb dX0_turnsOfE_14 ?_
  refine lv_iload_n hx hb dX0_turnsOfE_15 rfl (lv_at hl 0 rfl) ?_
  refine lv_iload_n hx hb dX0_turnsOfE_16 rfl (lv_at hl 1 rfl) ?_
  refine lv_bipush (v := 41) hx hb dX0_turnsOfE_17 (by decide) ?_
  refine xk_goPI (r := (jc_turned u w 41)) (va_runSN (As := [.int u, .int w, .int 41]) (rest := [.int ((jc_turned u w 14) ^^^ (jc_turned u w 18))]) ⟨hx, hb, hml, hown, hts⟩ (c_X2_turned l D u w 41) ⟨va_cnB 3 hts gX0_turnsOfE_X2_turned_n51 rfl rfl rfl (xs_n0_51 hX) in_X2 (by decide +kernel) ⟨Nat.le_of_ble_eq_true rfl, Nat.le_of_ble_eq_true rfl⟩, sm_51, trivial⟩ preEq rfl rfl hl.1 rfl (lv_room (Nat.le_of_ble_eq_true rfl)) dX0_turnsOfE_19 ⟨Nat.le_of_ble_eq_true rfl, Nat.le_of_ble_eq_true rfl⟩) hP hS (fun H locs hP hS => ?_)
  refine lv_ixor hx hb dX0_turnsOfE_22 ?_
  exact ret _ _ _ _ _ rfl hP hD hS dX0_turnsOfE_23
