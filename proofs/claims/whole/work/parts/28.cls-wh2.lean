abbrev rm_X2_updates_no : Room := { frames := 0, cells := 0, slots := 0, locals := 0 }
set_option maxHeartbeats 4000000 in
set_option maxRecDepth 100000 in
theorem c_X2_updates_no (l : Launch) (D : va_G) (cI cL : ClassId) (sz : Nat) (h0 : Nat) (h1 : Nat) (h2 : Nat) (h3 : Nat) (rdy : Int32) (opn : Int32) (knd : Int32) (cnt : Int32) (n : Int32) (b : Int32) (st : Int32) (hno : opn = 0 ∨ n < 0 ∨ ¬ n ≤ 2000) : xk_I l yX2_updates wsX2_updates rm_X2_updates_no xk_0 D classes [(cI, .int), (cL, .long)] [.ref h0, .int n, .int b, .int st] [(h0, .inr (2, [.ref h1, .ref h2, .ref h3, .int rdy, .int opn, .int knd, .int cnt]))] [(h0, .inr (2, [.ref h1, .ref h2, .ref h3, .int rdy, .int opn, .int knd, .int cnt]))] (0) sz := by
  refine xk_entZ (cc := cX2_updates) (maxL := 5) (by decide) rfl (Nat.le_of_ble_eq_true rfl) (Or.inl rfl) ?_
  intro p e s m args below meth co Q A ls hx hb hml hts hown hA hK hP hD hS hX ret hl
  have hl : lv_has ls 5 [(0, .ref h0), (1, .int n), (2, .int b), (3, .int st)] := hl
  have hi_2 : ∀ w ∈ u_ws RX2 TX2 7, w ∈ wsX2_updates := by decide +kernel
  have fl_31 := hts (.fieldLink RX2 31 "WideHash" "open" "Z") (by decide +kernel)
  refine lv_aload_n hx hb dX2_updates_0 rfl (lv_at hl 0 rfl) ?_
  refine va_get (D := D) (ci := 2) (v := .int opn) (C := RX2) (T := TX2) (N := 7) hx hb hts hi_2 hown hK hP 0 rfl rfl 4 (by decide) fl_31 (fun _ h9 => h9) rfl dX2_updates_1 ?_
  refine lv_if_eq (tgt := 18) hx hb dX2_updates_4 (by decide) (fun c1 => ?_) (fun c1 => ?_)
  · refine lv_iconst (v := 0) hx hb dX2_updates_18 (by decide) ?_
    exact ret _ _ _ _ _ rfl hP hD hS dX2_updates_19
  · refine lv_iload_n hx hb dX2_updates_7 rfl (lv_at hl 1 rfl) ?_
    refine lv_if_lt (tgt := 18) hx hb dX2_updates_8 (by decide) (fun c2 => ?_) (fun c2 => ?_)
    · refine lv_iconst (v := 0) hx hb dX2_updates_18 (by decide) ?_
      exact ret _ _ _ _ _ rfl hP hD hS dX2_updates_19
    · refine lv_iload_n hx hb dX2_updates_11 rfl (lv_at hl 1 rfl) ?_
      refine lv_sipush (v := 2000) hx hb dX2_updates_12 (by decide) ?_
      refine lv_icmp_le (tgt := 20) hx hb dX2_updates_15 (by decide) (fun c3 => ?_) (fun c3 => ?_)
      · exact hno.elim (fun h => absurd h c1) (fun h => h.elim (fun h => absurd h c2) (fun h => absurd c3 h))
      · refine lv_iconst (v := 0) hx hb dX2_updates_18 (by decide) ?_
        exact ret _ _ _ _ _ rfl hP hD hS dX2_updates_19
def jc_pups (S : xp_S) (b st : Int32) : Nat → xp_S
  | 0 => S
  | n + 1 => jc_ptake (jc_pups S b st n) ((b + nI n * st) &&& 255)
theorem jc_pups_lt (S : xp_S) (b st : Int32) (h : S.2.2.2 < 8) : ∀ n, (jc_pups S b st n).2.2.2 < 8
  | 0 => h
  | n + 1 => jc_ptake_lt _ _ (jc_pups_lt S b st h n)
def jc_ups (cr : Nat → Int32) (S : xs_S) (b st : Int32) : Nat → xs_S
  | 0 => S
  | n + 1 => jc_take cr (jc_ups cr S b st n) ((b + nI n * st) &&& 255)
theorem jc_ups_lt (cr : Nat → Int32) (S : xs_S) (b st : Int32) (h : S.2.2.2 < 128) : ∀ n, (jc_ups cr S b st n).2.2.2 < 128
  | 0 => h
  | n + 1 => jc_take_lt _ _ _ (jc_ups_lt cr S b st h n)
theorem xk_z0 (x : Int32) : x = x + nI 0 := by rw [nI_0]; exact (Int32.add_zero x).symm
abbrev rm_X2_updates_p : Room := { frames := 7, cells := 0, slots := 0, locals := 154 }
set_option maxHeartbeats 4000000 in
set_option maxRecDepth 100000 in
theorem c_X2_updates_p (l : Launch) (D : va_G) (cI cL : ClassId) (sz : Nat) (h0 : Nat) (h1 : Nat) (h2 : Nat) (h3 : Nat) (h7 : Nat) (rdy : Int32) (cnt : Int32) (S : xp_S) (n : Nat) (b : Int32) (st : Int32) (hn : n ≤ 2000) (hk : S.2.2.2 < 8) : xk_I l yX2_updates wsX2_updates rm_X2_updates_p xs_X D classes [(cI, .int), (cL, .long)] [.ref h0, .int (nI n), .int b, .int st] [(h0, .inr (2, [.ref h1, .ref h2, .ref h3, .int rdy, .int 1, .int 3, .int cnt])), (h2, .inr (1, [.ref h7, .int S.2.1, .int S.2.2.1, .int (nI S.2.2.2)])), (h7, .inl (cI, 8, .inl S.1))] [(h0, .inr (2, [.ref h1, .ref h2, .ref h3, .int rdy, .int 1, .int 3, .int (cnt + nI n)])), (h2, .inr (1, [.ref h7, .int ((jc_pups S b st n).2.1), .int ((jc_pups S b st n).2.2.1), .int (nI ((jc_pups S b st n).2.2.2))])), (h7, .inl (cI, 8, .inl ((jc_pups S b st n).1)))] (1) sz := by
  refine xk_entZ (cc := cX2_updates) (maxL := 5) (by decide) rfl (Nat.le_of_ble_eq_true rfl) (Or.inr rfl) ?_
  intro p e s m args below meth co Q A ls hx hb hml hts hown hA hK hP hD hS hX ret hl
  have hl : lv_has ls 5 [(0, .ref h0), (1, .int (nI n)), (2, .int b), (3, .int st)] := hl
  have hi_1 : ∀ w ∈ u_ws RX1 TX1 4, w ∈ wsX2_updates := by decide +kernel
  have hi_2 : ∀ w ∈ u_ws RX2 TX2 7, w ∈ wsX2_updates := by decide +kernel
  have fl_31 := hts (.fieldLink RX2 31 "WideHash" "open" "Z") (by decide +kernel)
  have hP : va_P D classes [(h0, .inr (2, [.ref h1, .ref h2, .ref h3, .int rdy, .int 1, .int 3, .int (cnt + nI 0)])), (h2, .inr (1, [.ref h7, .int ((jc_pups S b st 0).2.1), .int ((jc_pups S b st 0).2.2.1), .int (nI ((jc_pups S b st 0).2.2.2))])), (h7, .inl (cI, 8, .inl ((jc_pups S b st 0).1)))] s.heap := by rw [show cnt + nI 0 = cnt from (xk_z0 cnt).symm]; exact hP
  have hD : va_D A [(h0, .inr (2, [.ref h1, .ref h2, .ref h3, .int rdy, .int 1, .int 3, .int (cnt + nI 0)])), (h2, .inr (1, [.ref h7, .int ((jc_pups S b st 0).2.1), .int ((jc_pups S b st 0).2.2.1), .int (nI ((jc_pups S b st 0).2.2.2))])), (h7, .inl (cI, 8, .inl ((jc_pups S b st 0).1)))] := by rw [show cnt + nI 0 = cnt from (xk_z0 cnt).symm]; exact hD
  refine lv_aload_n hx hb dX2_updates_0 rfl (lv_at hl 0 rfl) ?_
  refine va_get (D := D) (ci := 2) (v := .int 1) (C := RX2) (T := TX2) (N := 7) hx hb hts hi_2 hown hK hP 0 rfl rfl 4 (by decide) fl_31 (fun _ h9 => h9) rfl dX2_updates_1 ?_
  refine lv_if_eq (tgt := 18) hx hb dX2_updates_4 (by decide) (fun c => ?_) (fun c => ?_)
  · exact absurd c (by decide)
  · refine lv_iload_n hx hb dX2_updates_7 rfl (lv_at hl 1 rfl) ?_
    refine lv_if_lt (tgt := 18) hx hb dX2_updates_8 (by decide) (fun c => ?_) (fun c => ?_)
    · exact absurd c (nI_pos (by omega))
    · refine lv_iload_n hx hb dX2_updates_11 rfl (lv_at hl 1 rfl) ?_
      refine lv_sipush (v := 2000) hx hb dX2_updates_12 (by decide) ?_
      refine lv_icmp_le (tgt := 20) hx hb dX2_updates_15 (by decide) (fun c => ?_) (fun c => ?_)
      · refine lv_iconst (v := 0) hx hb dX2_updates_20 (by decide) ?_
        refine lv_istore (lv' := [(4, .int 0), (0, .ref h0), (1, .int (nI n)), (2, .int b), (3, .int st)]) hx hb dX2_updates_21 hl (by decide) rfl (fun ls hl => ?_)
        have loopA : ∀ (d : Nat) (j : Nat), (hj : j + d = n) → ∀ (H : Heap) (locs : List Loc) (ls : Array Slot), va_P D classes [(h0, .inr (2, [.ref h1, .ref h2, .ref h3, .int rdy, .int 1, .int 3, .int (cnt + nI j)])), (h2, .inr (1, [.ref h7, .int ((jc_pups S b st j).2.1), .int ((jc_pups S b st j).2.2.1), .int (nI ((jc_pups S b st j).2.2.2))])), (h7, .inl (cI, 8, .inl ((jc_pups S b st j).1)))] H → va_D A [(h0, .inr (2, [.ref h1, .ref h2, .ref h3, .int rdy, .int 1, .int 3, .int (cnt + nI j)])), (h2, .inr (1, [.ref h7, .int ((jc_pups S b st j).2.1), .int ((jc_pups S b st j).2.2.1), .int (nI ((jc_pups S b st j).2.2.2))])), (h7, .inl (cI, 8, .inl ((jc_pups S b st j).1)))] → va_S A s.heap H locs → lv_has ls 5 [(0, .ref h0), (1, .int (nI n)), (2, .int b), (3, .int st), (4, .int (nI j))] → W p l e rm_X2_updates_p s m args below meth co H locs 0 0 Q (F0 m 23 ls []) := by
          intro d
          induction d with
          | zero =>
            intro j hj H locs ls hP hD hS hl
            obtain rfl : n = j := by omega
            refine lv_iload hx hb dX2_updates_23 (lv_at hl 4 rfl) ?_
            refine lv_iload_n hx hb dX2_updates_25 rfl (lv_at hl 1 rfl) ?_
            refine lv_icmp_ge (tgt := 49) hx hb dX2_updates_26 (by decide) (fun c => ?_) (fun c => ?_)
            · refine lv_iconst (v := 1) hx hb dX2_updates_49 (by decide) ?_
              exact ret _ _ _ _ _ rfl hP hD hS dX2_updates_50
            · exact absurd (nI_le (a := n) (b := n) (by omega) (by omega)) c
          | succ d ihloopA =>
            intro j hj H locs ls hP hD hS hl
            refine lv_iload hx hb dX2_updates_23 (lv_at hl 4 rfl) ?_
            refine lv_iload_n hx hb dX2_updates_25 rfl (lv_at hl 1 rfl) ?_
            refine lv_icmp_ge (tgt := 49) hx hb dX2_updates_26 (by decide) (fun c => ?_) (fun c => ?_)
            · exact absurd c (nI_ge (a := j) (b := n) (by omega) (by omega))
            · refine lv_aload_n hx hb dX2_updates_29 rfl (lv_at hl 0 rfl) ?_
              refine lv_iload_n hx hb dX2_updates_30 rfl (lv_at hl 2 rfl) ?_
              refine lv_iload hx hb dX2_updates_31 (lv_at hl 4 rfl) ?_
              refine lv_iload_n hx hb dX2_updates_33 rfl (lv_at hl 3 rfl) ?_
              refine lv_imul hx hb dX2_updates_34 ?_
              refine lv_iadd hx hb dX2_updates_35 ?_
              refine lv_sipush (v := 255) hx hb dX2_updates_36 (by decide) ?_
              refine lv_iand hx hb dX2_updates_39 ?_
              refine xk_goV (wr := []) (w2 := [(h0, .inr (2, [.ref h1, .ref h2, .ref h3, .int rdy, .int 1, .int 3, .int ((cnt + nI j) + 1)])), (h2, .inr (1, [.ref h7, .int ((jc_ptake (jc_pups S b st j) ((b + ((nI j) * st)) &&& 255)).2.1), .int ((jc_ptake (jc_pups S b st j) ((b + ((nI j) * st)) &&& 255)).2.2.1), .int (nI ((jc_ptake (jc_pups S b st j) ((b + ((nI j) * st)) &&& 255)).2.2.2))])), (h7, .inl (cI, 8, .inl ((jc_ptake (jc_pups S b st j) ((b + ((nI j) * st)) &&& 255)).1)))]) (va_runV (As := [.int ((b + ((nI j) * st)) &&& 255)]) (rest := []) ⟨hx, hb, hml, hown, hts⟩ (c_X2_take_p l D cI cL H.size h0 h1 h2 h3 h7 rdy 1 (cnt + nI j) (jc_pups S b st j) ((b + ((nI j) * st)) &&& 255) (jc_pups_lt _ _ _ hk _)) (cwV 1 hts gX2_updates_X2_take rfl rfl rfl (by decide +kernel) ⟨Nat.le_of_ble_eq_true rfl, Nat.le_of_ble_eq_true rfl⟩) ⟨xk_blind xs_X_ok, va_recv hK hP (ci := 2) (q0 := 0) rfl rfl, xk_at xs_X_ok hX hP hD hK hS hA [0, 1, 2] rfl (by decide) rfl⟩ rfl rfl hl.1 rfl (lv_room (Nat.le_of_ble_eq_true rfl)) dX2_updates_40 ⟨Nat.le_of_ble_eq_true rfl, Nat.le_of_ble_eq_true rfl⟩) hP hD hS hA [0, 1, 2] [] [0, 1, 2] rfl rfl (by decide) (by decide) rfl (by decide) rfl (fun H locs hP hD hS => ?_)
              rw [show (cnt + nI j) + 1 = cnt + nI (j + 1) from by rw [nI_succ]; exact Int32.add_assoc _ _ _] at hP hD
              refine lv_iinc (v := nI (j + 1)) (lv' := [(4, .int (nI (j + 1))), (0, .ref h0), (1, .int (nI n)), (2, .int b), (3, .int st)]) hx hb dX2_updates_43 hl (k := 4) rfl (xk_i1 (by omega)) (by decide) rfl (fun ls hl => ?_)
              refine lv_goto (tgt := 23) hx hb dX2_updates_46 (by decide) ?_
              exact ihloopA (j + 1) (by omega) _ _ _ hP hD hS (lv_sub hl [1, 2, 3, 4, 0] rfl)
        exact loopA n 0 (Nat.zero_add _) _ _ _ hP hD hS (lv_sub hl [1, 2, 3, 4, 0] rfl)
      · exact absurd (nI_le (a := n) (b := 2000) (by omega) (by omega)) c
abbrev rm_X2_updates_s : Room := { frames := 6, cells := 0, slots := 0, locals := 135 }
set_option maxHeartbeats 4000000 in
set_option maxRecDepth 100000 in
theorem c_X2_updates_s (l : Launch) (D : va_G) (cI cL : ClassId) (sz : Nat) (h0 : Nat) (h1 : Nat) (h2 : Nat) (h3 : Nat) (h4 : Nat) (h5 : Nat) (h6 : Nat) (rdy : Int32) (knd : Int32) (cnt : Int32) (S : xs_S) (n : Nat) (b : Int32) (st : Int32) (hn : n ≤ 2000) (hkd : ¬ knd = 3) (hk : S.2.2.2 < 128) : xk_I l yX2_updates wsX2_updates rm_X2_updates_s xs_X D classes [(cI, .int), (cL, .long)] [.ref h0, .int (nI n), .int b, .int st] [(h0, .inr (2, [.ref h1, .ref h2, .ref h3, .int rdy, .int 1, .int knd, .int cnt])), (h1, .inr (0, [.ref h4, .ref h5, .ref h6, .int (nI S.2.2.2)])), (h4, .inl (cI, 16, .inl S.1)), (h5, .inl (cI, 16, .inl S.2.1)), (h6, .inl (cI, 160, .inl S.2.2.1))] [(h0, .inr (2, [.ref h1, .ref h2, .ref h3, .int rdy, .int 1, .int knd, .int (cnt + nI n)])), (h1, .inr (0, [.ref h4, .ref h5, .ref h6, .int (nI ((jc_ups xs_CR S b st n).2.2.2))])), (h4, .inl (cI, 16, .inl ((jc_ups xs_CR S b st n).1))), (h5, .inl (cI, 16, .inl ((jc_ups xs_CR S b st n).2.1))), (h6, .inl (cI, 160, .inl ((jc_ups xs_CR S b st n).2.2.1)))] (1) sz := by
  refine xk_entZ (cc := cX2_updates) (maxL := 5) (by decide) rfl (Nat.le_of_ble_eq_true rfl) (Or.inr rfl) ?_
  intro p e s m args below meth co Q A ls hx hb hml hts hown hA hK hP hD hS hX ret hl
  have hl : lv_has ls 5 [(0, .ref h0), (1, .int (nI n)), (2, .int b), (3, .int st)] := hl
  have hi_0 : ∀ w ∈ u_ws RX0 TX0 4, w ∈ wsX2_updates := by decide +kernel
  have hi_2 : ∀ w ∈ u_ws RX2 TX2 7, w ∈ wsX2_updates := by decide +kernel
  have fl_31 := hts (.fieldLink RX2 31 "WideHash" "open" "Z") (by decide +kernel)
  have hP : va_P D classes [(h0, .inr (2, [.ref h1, .ref h2, .ref h3, .int rdy, .int 1, .int knd, .int (cnt + nI 0)])), (h1, .inr (0, [.ref h4, .ref h5, .ref h6, .int (nI ((jc_ups xs_CR S b st 0).2.2.2))])), (h4, .inl (cI, 16, .inl ((jc_ups xs_CR S b st 0).1))), (h5, .inl (cI, 16, .inl ((jc_ups xs_CR S b st 0).2.1))), (h6, .inl (cI, 160, .inl ((jc_ups xs_CR S b st 0).2.2.1)))] s.heap := by rw [show cnt + nI 0 = cnt from (xk_z0 cnt).symm]; exact hP
  have hD : va_D A [(h0, .inr (2, [.ref h1, .ref h2, .ref h3, .int rdy, .int 1, .int knd, .int (cnt + nI 0)])), (h1, .inr (0, [.ref h4, .ref h5, .ref h6, .int (nI ((jc_ups xs_CR S b st 0).2.2.2))])), (h4, .inl (cI, 16, .inl ((jc_ups xs_CR S b st 0).1))), (h5, .inl (cI, 16, .inl ((jc_ups xs_CR S b st 0).2.1))), (h6, .inl (cI, 160, .inl ((jc_ups xs_CR S b st 0).2.2.1)))] := by rw [show cnt + nI 0 = cnt from (xk_z0 cnt).symm]; exact hD
  refine lv_aload_n hx hb dX2_updates_0 rfl (lv_at hl 0 rfl) ?_
  refine va_get (D := D) (ci := 2) (v := .int 1) (C := RX2) (T := TX2) (N := 7) hx hb hts hi_2 hown hK hP 0 rfl rfl 4 (by decide) fl_31 (fun _ h9 => h9) rfl dX2_updates_1 ?_
  refine lv_if_eq (tgt := 18) hx hb dX2_updates_4 (by decide) (fun c => ?_) (fun c => ?_)
  · exact absurd c (by decide)
  · refine lv_iload_n hx hb dX2_updates_7 rfl (lv_at hl 1 rfl) ?_
    refine lv_if_lt (tgt := 18) hx hb dX2_updates_8 (by decide) (fun c => ?_) (fun c => ?_)
    · exact absurd c (nI_pos (by omega))
    · refine lv_iload_n hx hb dX2_updates_11 rfl (lv_at hl 1 rfl) ?_
      refine lv_sipush (v := 2000) hx hb dX2_updates_12 (by decide) ?_
      refine lv_icmp_le (tgt := 20) hx hb dX2_updates_15 (by decide) (fun c => ?_) (fun c => ?_)
      · refine lv_iconst (v := 0) hx hb dX2_updates_20 (by decide) ?_
        refine lv_istore (lv' := [(4, .int 0), (0, .ref h0), (1, .int (nI n)), (2, .int b), (3, .int st)]) hx hb dX2_updates_21 hl (by decide) rfl (fun ls hl => ?_)
        have loopA : ∀ (d : Nat) (j : Nat), (hj : j + d = n) → ∀ (H : Heap) (locs : List Loc) (ls : Array Slot), va_P D classes [(h0, .inr (2, [.ref h1, .ref h2, .ref h3, .int rdy, .int 1, .int knd, .int (cnt + nI j)])), (h1, .inr (0, [.ref h4, .ref h5, .ref h6, .int (nI ((jc_ups xs_CR S b st j).2.2.2))])), (h4, .inl (cI, 16, .inl ((jc_ups xs_CR S b st j).1))), (h5, .inl (cI, 16, .inl ((jc_ups xs_CR S b st j).2.1))), (h6, .inl (cI, 160, .inl ((jc_ups xs_CR S b st j).2.2.1)))] H → va_D A [(h0, .inr (2, [.ref h1, .ref h2, .ref h3, .int rdy, .int 1, .int knd, .int (cnt + nI j)])), (h1, .inr (0, [.ref h4, .ref h5, .ref h6, .int (nI ((jc_ups xs_CR S b st j).2.2.2))])), (h4, .inl (cI, 16, .inl ((jc_ups xs_CR S b st j).1))), (h5, .inl (cI, 16, .inl ((jc_ups xs_CR S b st j).2.1))), (h6, .inl (cI, 160, .inl ((jc_ups xs_CR S b st j).2.2.1)))] → va_S A s.heap H locs → lv_has ls 5 [(0, .ref h0), (1, .int (nI n)), (2, .int b), (3, .int st), (4, .int (nI j))] → W p l e rm_X2_updates_s s m args below meth co H locs 0 0 Q (F0 m 23 ls []) := by
          intro d
          induction d with
          | zero =>
            intro j hj H locs ls hP hD hS hl
            obtain rfl : n = j := by omega
            refine lv_iload hx hb dX2_updates_23 (lv_at hl 4 rfl) ?_
            refine lv_iload_n hx hb dX2_updates_25 rfl (lv_at hl 1 rfl) ?_
            refine lv_icmp_ge (tgt := 49) hx hb dX2_updates_26 (by decide) (fun c => ?_) (fun c => ?_)
            · refine lv_iconst (v := 1) hx hb dX2_updates_49 (by decide) ?_
              exact ret _ _ _ _ _ rfl hP hD hS dX2_updates_50
            · exact absurd (nI_le (a := n) (b := n) (by omega) (by omega)) c
          | succ d ihloopA =>
            intro j hj H locs ls hP hD hS hl
            refine lv_iload hx hb dX2_updates_23 (lv_at hl 4 rfl) ?_
            refine lv_iload_n hx hb dX2_updates_25 rfl (lv_at hl 1 rfl) ?_
            refine lv_icmp_ge (tgt := 49) hx hb dX2_updates_26 (by decide) (fun c => ?_) (fun c => ?_)
            · exact absurd c (nI_ge (a := j) (b := n) (by omega) (by omega))
            · refine lv_aload_n hx hb dX2_updates_29 rfl (lv_at hl 0 rfl) ?_
              refine lv_iload_n hx hb dX2_updates_30 rfl (lv_at hl 2 rfl) ?_
              refine lv_iload hx hb dX2_updates_31 (lv_at hl 4 rfl) ?_
              refine lv_iload_n hx hb dX2_updates_33 rfl (lv_at hl 3 rfl) ?_
              refine lv_imul hx hb dX2_updates_34 ?_
              refine lv_iadd hx hb dX2_updates_35 ?_
              refine lv_sipush (v := 255) hx hb dX2_updates_36 (by decide) ?_
              refine lv_iand hx hb dX2_updates_39 ?_
              refine xk_goV (wr := []) (w2 := [(h0, .inr (2, [.ref h1, .ref h2, .ref h3, .int rdy, .int 1, .int knd, .int ((cnt + nI j) + 1)])), (h1, .inr (0, [.ref h4, .ref h5, .ref h6, .int (nI ((jc_take xs_CR (jc_ups xs_CR S b st j) ((b + ((nI j) * st)) &&& 255)).2.2.2))])), (h4, .inl (cI, 16, .inl ((jc_take xs_CR (jc_ups xs_CR S b st j) ((b + ((nI j) * st)) &&& 255)).1))), (h5, .inl (cI, 16, .inl ((jc_take xs_CR (jc_ups xs_CR S b st j) ((b + ((nI j) * st)) &&& 255)).2.1))), (h6, .inl (cI, 160, .inl ((jc_take xs_CR (jc_ups xs_CR S b st j) ((b + ((nI j) * st)) &&& 255)).2.2.1)))]) (va_runV (As := [.int ((b + ((nI j) * st)) &&& 255)]) (rest := []) ⟨hx, hb, hml, hown, hts⟩ (c_X2_take_s l D cI cL H.size h0 h1 h2 h3 h4 h5 h6 rdy 1 knd (cnt + nI j) (jc_ups xs_CR S b st j) ((b + ((nI j) * st)) &&& 255) hkd (jc_ups_lt _ _ _ _ hk _)) (cwV 1 hts gX2_updates_X2_take rfl rfl rfl (by decide +kernel) ⟨Nat.le_of_ble_eq_true rfl, Nat.le_of_ble_eq_true rfl⟩) ⟨xk_blind xs_X_ok, va_recv hK hP (ci := 2) (q0 := 0) rfl rfl, xk_at xs_X_ok hX hP hD hK hS hA [0, 1, 2, 3, 4] rfl (by decide) rfl⟩ rfl rfl hl.1 rfl (lv_room (Nat.le_of_ble_eq_true rfl)) dX2_updates_40 ⟨Nat.le_of_ble_eq_true rfl, Nat.le_of_ble_eq_true rfl⟩) hP hD hS hA [0, 1, 2, 3, 4] [] [0, 1, 2, 3, 4] rfl rfl (by decide) (by decide) rfl (by decide) rfl (fun H locs hP hD hS => ?_)
              rw [show (cnt + nI j) + 1 = cnt + nI (j + 1) from by rw [nI_succ]; exact Int32.add_assoc _ _ _] at hP hD
              refine lv_iinc (v := nI (j + 1)) (lv' := [(4, .int (nI (j + 1))), (0, .ref h0), (1, .int (nI n)), (2, .int b), (3, .int st)]) hx hb dX2_updates_43 hl (k := 4) rfl (xk_i1 (by omega)) (by decide) rfl (fun ls hl => ?_)
              refine lv_goto (tgt := 23) hx hb dX2_updates_46 (by decide) ?_
              exact ihloopA (j + 1) (by omega) _ _ _ hP hD hS (lv_sub hl [1, 2, 3, 4, 0] rfl)
        exact loopA n 0 (Nat.zero_add _) _ _ _ hP hD hS (lv_sub hl [1, 2, 3, 4, 0] rfl)
      · exact absurd (nI_le (a := n) (b := 2000) (by omega) (by omega)) c
