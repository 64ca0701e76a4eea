abbrev rm_X2_addTo : Room := { frames := 1, cells := 0, slots := 0, locals := 21 }
set_option maxHeartbeats 4000000 in
set_option maxRecDepth 100000 in
theorem c_X2_addTo (l : Launch) (D : va_G) (cI cL : ClassId) (sz : Nat) (h : Nat) (n : Nat) (f : Nat → Int32) (k : Nat) (u : Int32) (w : Int32) (hk : k + 1 < n) (hn : n < 2 ^ 31) : xk_V l yX2_addTo wsX2_addTo rm_X2_addTo xk_0 D classes [(cI, .int), (cL, .long)] [.ref h, .int (nI k), .int u, .int w] [(h, .inl (cI, n, .inl f))] [(h, .inl (cI, n, .inl (jc_addTo f k u w)))] sz := by
  refine xk_entV (cc := cX2_addTo) (maxL := 4) (by decide) rfl (Nat.le_of_ble_eq_true rfl) ?_
  intro p e s m args below meth co Q A ls hx hb hml hts hown hA hK hP hD hS hX ret hl
  have hl : lv_has ls 4 [(0, .ref h), (1, .int (nI k)), (2, .int u), (3, .int w)] := hl
  refine lv_aload_n hx hb dX2_addTo_0 rfl (lv_at hl 0 rfl) ?_
  refine lv_iload_n hx hb dX2_addTo_1 rfl (lv_at hl 1 rfl) ?_
  refine lv_dup2_11 hx hb dX2_addTo_2 rfl rfl ?_
  refine xk_iald hx hb hK hP 0 0 rfl rfl k rfl (by omega) (by omega) dX2_addTo_3 ?_
  refine lv_iload_n hx hb dX2_addTo_4 rfl (lv_at hl 2 rfl) ?_
  refine lv_aload_n hx hb dX2_addTo_5 rfl (lv_at hl 0 rfl) ?_
  refine lv_iload_n hx hb dX2_addTo_6 rfl (lv_at hl 1 rfl) ?_
  refine lv_iconst (v := 1) hx hb dX2_addTo_7 (by decide) ?_
  refine xk_iaddN hx hb k 1 (k + 1) rfl rfl (by omega) dX2_addTo_8 ?_
  refine xk_iald hx hb hK hP 0 0 rfl rfl (k + 1) rfl (by omega) (by omega) dX2_addTo_9 ?_
  refine lv_iload_n hx hb dX2_addTo_10 rfl (lv_at hl 3 rfl) ?_
  refine xk_goPI (r := (jc_carry (f (k + 1)) w)) (va_runS (As := [.int (f (k + 1)), .int w]) (rest := [.int u, .int (f k), .int (nI k), .ref h]) ⟨hx, hb, hml, hown, hts⟩ (c_X2_carry l D (f (k + 1)) w) (va_cwS 2 hts gX2_addTo_X2_carry rfl rfl rfl (by decide +kernel) ⟨Nat.le_of_ble_eq_true rfl, Nat.le_of_ble_eq_true rfl⟩) preEq rfl rfl hl.1 rfl (lv_room (Nat.le_of_ble_eq_true rfl)) dX2_addTo_11 ⟨Nat.le_of_ble_eq_true rfl, Nat.le_of_ble_eq_true rfl⟩) hP hS (fun H locs hP hS => ?_)
  refine lv_iadd hx hb dX2_addTo_14 ?_
  refine lv_iadd hx hb dX2_addTo_15 ?_
  refine xk_iast hx hb hK hP hD hS 0 0 rfl rfl k rfl (by omega) (by omega) dX2_addTo_16 (fun H locs hP hD hS => ?_)
  have hP : va_P D classes [(h, .inl (cI, n, .inl (upd f k ((f k) + (u + (jc_carry (f (k + 1)) w))))))] H := hP
  have hD : va_D A [(h, .inl (cI, n, .inl (upd f k ((f k) + (u + (jc_carry (f (k + 1)) w))))))] := hD
  generalize eL1 : upd f k ((f k) + (u + (jc_carry (f (k + 1)) w))) = L1 at hP hD
  refine lv_aload_n hx hb dX2_addTo_17 rfl (lv_at hl 0 rfl) ?_
  refine lv_iload_n hx hb dX2_addTo_18 rfl (lv_at hl 1 rfl) ?_
  refine lv_iconst (v := 1) hx hb dX2_addTo_19 (by decide) ?_
  refine xk_iaddN hx hb k 1 (k + 1) rfl rfl (by omega) dX2_addTo_20 ?_
  refine lv_dup2_11 hx hb dX2_addTo_21 rfl rfl ?_
  refine xk_iald hx hb hK hP 0 0 rfl rfl (k + 1) rfl (by omega) (by omega) dX2_addTo_22 ?_
  refine lv_iload_n hx hb dX2_addTo_23 rfl (lv_at hl 3 rfl) ?_
  refine lv_iadd hx hb dX2_addTo_24 ?_
  refine xk_iast hx hb hK hP hD hS 0 0 rfl rfl (k + 1) rfl (by omega) (by omega) dX2_addTo_25 (fun H locs hP hD hS => ?_)
  have hP : va_P D classes [(h, .inl (cI, n, .inl (upd L1 (k + 1) ((L1 (k + 1)) + w))))] H := hP
  have hD : va_D A [(h, .inl (cI, n, .inl (upd L1 (k + 1) ((L1 (k + 1)) + w))))] := hD
  generalize eL2 : upd L1 (k + 1) ((L1 (k + 1)) + w) = L2 at hP hD
  subst eL1
  subst eL2
  exact ret _ _ _ _ hP hD hS dX2_addTo_26
