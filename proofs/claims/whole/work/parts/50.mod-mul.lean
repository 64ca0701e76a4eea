abbrev rm_X3_multiply_s : Room := { frames := 0, cells := 0, slots := 0, locals := 0 }
set_option maxHeartbeats 4000000 in
set_option maxRecDepth 100000 in
theorem c_X3_multiply_s (l : Launch) (D : va_G) (cI cL : ClassId) (sz : Nat) (pa : Nat) (pt : Nat) (n : Nat) (x : Nat) (g : Nat → Int64) (hn : n < 100) (hxn : x < 65536 ^ n) : xk_V l yX3_multiply wsX3_multiply rm_X3_multiply_s xk_0 D classes [(cI, .int), (cL, .long)] [.ref pa, .int (nI n), .ref pa, .int (nI n), .ref pt] [(pa, .inl (cL, n, .inr (.inl (mo_D x)))), (pt, .inl (cL, n + n, .inr (.inl g)))] [(pa, .inl (cL, n, .inr (.inl (mo_D x)))), (pt, .inl (cL, n + n, .inr (.inl (mo_D (x * x)))))] sz := by
  refine xk_entV (cc := cX3_multiply) (maxL := 11) (by decide) rfl (Nat.le_of_ble_eq_true rfl) ?_
  intro p e s m args below meth co Q A ls hx hb hml hts hown hA hK hP hD hS hX ret hl
  have hl : lv_has ls 11 [(0, .ref pa), (1, .int (nI n)), (2, .ref pa), (3, .int (nI n)), (4, .ref pt)] := hl
  have kc_49 := hts (.constantLong RX3 49 (65535)) (by decide +kernel)
  refine lv_iconst (v := 0) hx hb dX3_multiply_0 (by decide) ?_
  refine lv_istore (lv' := [(5, .int 0), (0, .ref pa), (1, .int (nI n)), (2, .ref pa), (3, .int (nI n)), (4, .ref pt)]) hx hb dX3_multiply_1 hl (by decide) rfl (fun ls hl => ?_)
  have loopZ : ∀ (d : Nat) (k : Nat), (hk : k + d = n + n) → ∀ (H : Heap) (locs : List Loc) (ls : Array Slot), va_P D classes [(pa, .inl (cL, n, .inr (.inl (mo_D x)))), (pt, .inl (cL, n + n, .inr (.inl (mo_z g k))))] H → va_D A [(pa, .inl (cL, n, .inr (.inl (mo_D x)))), (pt, .inl (cL, n + n, .inr (.inl (mo_z g k))))] → va_S A s.heap H locs → lv_has ls 11 [(0, .ref pa), (1, .int (nI n)), (2, .ref pa), (3, .int (nI n)), (4, .ref pt), (5, .int (nI k))] → W p l e rm_X3_multiply_s s m args below meth co H locs 0 0 Q (F0 m 3 ls []) := by
    intro d
    induction d with
    | zero =>
      intro k hk H locs ls hP hD hS hl
      obtain rfl : k = n + n := by omega
      refine lv_iload hx hb dX3_multiply_3 (lv_at hl 5 rfl) ?_
      refine lv_iload_n hx hb dX3_multiply_5 rfl (lv_at hl 1 rfl) ?_
      refine lv_iload_n hx hb dX3_multiply_6 rfl (lv_at hl 3 rfl) ?_
      refine xk_iaddN hx hb n n (n + n) rfl rfl (by omega) dX3_multiply_7 ?_
      refine lv_icmp_ge (tgt := 23) hx hb dX3_multiply_8 (by decide) (fun c => ?_) (fun c => ?_)
      · have hP := xk_congL hP 1 rfl (g := fL_ (fun _ => 0)) (fun j hj => mo_z_at g _ j hj)
        have hD := va_D.set (p := 1) (e := .inl (cL, n + n, .inr (.inl (fL_ (fun _ => 0))))) hD rfl
        have hP : va_P D classes [(pa, .inl (cL, n, .inr (.inl (mo_D x)))), (pt, .inl (cL, n + n, .inr (.inl (fL_ (fun _ => 0)))))] H := hP
        have hD : va_D A [(pa, .inl (cL, n, .inr (.inl (mo_D x)))), (pt, .inl (cL, n + n, .inr (.inl (fL_ (fun _ => 0)))))] := hD
        refine lv_iconst (v := 0) hx hb dX3_multiply_23 (by decide) ?_
        refine lv_istore (lv' := [(5, .int 0), (0, .ref pa), (1, .int (nI n)), (2, .ref pa), (3, .int (nI n)), (4, .ref pt)]) hx hb dX3_multiply_24 hl (by decide) rfl (fun ls hl => ?_)
        have loopO : ∀ (d : Nat) (i : Nat) (t : Nat → Nat), (hi : i + d = n) → (ht : ∀ q, t q < 65536) → (hz : ∀ q, i + n ≤ q → t q = 0) → (hv : mo_v t (n + n) = (x % 65536 ^ i) * x) → ∀ (H : Heap) (locs : List Loc) (ls : Array Slot), va_P D classes [(pa, .inl (cL, n, .inr (.inl (mo_D x)))), (pt, .inl (cL, n + n, .inr (.inl (fL_ t))))] H → va_D A [(pa, .inl (cL, n, .inr (.inl (mo_D x)))), (pt, .inl (cL, n + n, .inr (.inl (fL_ t))))] → va_S A s.heap H locs → lv_has ls 11 [(0, .ref pa), (1, .int (nI n)), (2, .ref pa), (3, .int (nI n)), (4, .ref pt), (5, .int (nI i))] → W p l e rm_X3_multiply_s s m args below meth co H locs 0 0 Q (F0 m 26 ls []) := by
          intro d
          induction d with
          | zero =>
            intro i t hi ht hz hv H locs ls hP hD hS hl
            obtain rfl : n = i := by omega
            refine lv_iload hx hb dX3_multiply_26 (lv_at hl 5 rfl) ?_
            refine lv_iload_n hx hb dX3_multiply_28 rfl (lv_at hl 1 rfl) ?_
            refine lv_icmp_ge (tgt := 109) hx hb dX3_multiply_29 (by decide) (fun c => ?_) (fun c => ?_)
            · have hP := xk_congL hP 1 rfl (g := mo_D (x * x)) (v_fL (fun j _ => ht j) (by rw [hv, Nat.mod_eq_of_lt hxn]))
              have hD := va_D.set (p := 1) (e := .inl (cL, n + n, .inr (.inl (mo_D (x * x))))) hD rfl
              have hP : va_P D classes [(pa, .inl (cL, n, .inr (.inl (mo_D x)))), (pt, .inl (cL, n + n, .inr (.inl (mo_D (x * x)))))] H := hP
              have hD : va_D A [(pa, .inl (cL, n, .inr (.inl (mo_D x)))), (pt, .inl (cL, n + n, .inr (.inl (mo_D (x * x)))))] := hD
              exact ret _ _ _ _ hP hD hS dX3_multiply_109
            · exact absurd (nI_le (a := n) (b := n) (by omega) (by omega)) c
          | succ d ihloopO =>
            intro i t hi ht hz hv H locs ls hP hD hS hl
            refine lv_iload hx hb dX3_multiply_26 (lv_at hl 5 rfl) ?_
            refine lv_iload_n hx hb dX3_multiply_28 rfl (lv_at hl 1 rfl) ?_
            refine lv_icmp_ge (tgt := 109) hx hb dX3_multiply_29 (by decide) (fun c => ?_) (fun c => ?_)
            · exact absurd c (nI_ge (a := i) (b := n) (by omega) (by omega))
            · refine lv_lconst (v := 0) hx hb dX3_multiply_32 rfl ?_
              refine lv_lstore (lv' := [(6, .long 0), (0, .ref pa), (1, .int (nI n)), (2, .ref pa), (3, .int (nI n)), (4, .ref pt), (5, .int (nI i))]) hx hb dX3_multiply_33 hl (by decide) rfl (fun ls hl => ?_)
              refine lv_iconst (v := 0) hx hb dX3_multiply_35 (by decide) ?_
              refine lv_istore (lv' := [(8, .int 0), (6, .long 0), (0, .ref pa), (1, .int (nI n)), (2, .ref pa), (3, .int (nI n)), (4, .ref pt), (5, .int (nI i))]) hx hb dX3_multiply_36 hl (by decide) rfl (fun ls hl => ?_)
              have loopI : ∀ (d2 : Nat) (j : Nat) (t : Nat → Nat) (cr : Nat), (hj : j + d2 = n) → (ht : ∀ q, t q < 65536) → (hz : ∀ q, i + n ≤ q → t q = 0) → (hc : cr < 65536) → (hv : mo_v t (n + n) + cr * 65536 ^ (i + j) = (x % 65536 ^ i) * x + mo_d x i * (x % 65536 ^ j) * 65536 ^ i) → ∀ (H : Heap) (locs : List Loc) (ls : Array Slot), va_P D classes [(pa, .inl (cL, n, .inr (.inl (mo_D x)))), (pt, .inl (cL, n + n, .inr (.inl (fL_ t))))] H → va_D A [(pa, .inl (cL, n, .inr (.inl (mo_D x)))), (pt, .inl (cL, n + n, .inr (.inl (fL_ t))))] → va_S A s.heap H locs → lv_has ls 11 [(0, .ref pa), (1, .int (nI n)), (2, .ref pa), (3, .int (nI n)), (4, .ref pt), (5, .int (nI i)), (6, .long (lN cr)), (8, .int (nI j))] → W p l e rm_X3_multiply_s s m args below meth co H locs 0 0 Q (F0 m 38 ls []) := by
                intro d2
                induction d2 with
                | zero =>
                  intro j t cr hj ht hz hc hv H locs ls hP hD hS hl
                  obtain rfl : n = j := by omega
                  refine lv_iload hx hb dX3_multiply_38 (lv_at hl 7 rfl) ?_
                  refine lv_iload_n hx hb dX3_multiply_40 rfl (lv_at hl 3 rfl) ?_
                  refine lv_icmp_ge (tgt := 94) hx hb dX3_multiply_41 (by decide) (fun c => ?_) (fun c => ?_)
                  · refine lv_aload hx hb dX3_multiply_94 (lv_at hl 4 rfl) ?_
                    refine lv_iload hx hb dX3_multiply_96 (lv_at hl 5 rfl) ?_
                    refine lv_iload_n hx hb dX3_multiply_98 rfl (lv_at hl 3 rfl) ?_
                    refine xk_iaddN hx hb i n (i + n) rfl rfl (by omega) dX3_multiply_99 ?_
                    refine lv_lload hx hb dX3_multiply_100 (lv_at hl 6 rfl) ?_
                    refine xk_last hx hb hK hP hD hS 1 1 rfl rfl (i + n) rfl (by omega) (by omega) dX3_multiply_102 (fun H locs hP hD hS => ?_)
                    have hP : va_P D classes [(pa, .inl (cL, n, .inr (.inl (mo_D x)))), (pt, .inl (cL, n + n, .inr (.inl (vp_updL (fL_ t) (i + n) (lN cr)))))] H := hP
                    have hD : va_D A [(pa, .inl (cL, n, .inr (.inl (mo_D x)))), (pt, .inl (cL, n + n, .inr (.inl (vp_updL (fL_ t) (i + n) (lN cr)))))] := hD
                    generalize eL1 : vp_updL (fL_ t) (i + n) (lN cr) = L1 at hP hD
                    subst eL1
                    rw [fL_upd] at hP hD
                    refine lv_iinc (v := nI (i + 1)) (lv' := [(5, .int (nI (i + 1))), (0, .ref pa), (1, .int (nI n)), (2, .ref pa), (3, .int (nI n)), (4, .ref pt), (6, .long (lN cr)), (8, .int (nI n))]) hx hb dX3_multiply_103 hl (k := 5) rfl (xk_i1 (by omega)) (by decide) rfl (fun ls hl => ?_)
                    refine lv_goto (tgt := 26) hx hb dX3_multiply_106 (by decide) ?_
                    exact ihloopO (i + 1) (nu_ t (i + n) cr) (by omega) (nu_lt ht hc) (fun q hq => by rw [nu_n t cr (by omega)]; exact hz q (by omega)) (mul_out x x cr i n _ t hxn (hz _ (Nat.le_refl _)) (by omega) hv) _ _ _ hP hD hS (lv_sub hl [1, 2, 3, 4, 5, 0] rfl)
                  · exact absurd (nI_le (a := n) (b := n) (by omega) (by omega)) c
                | succ d2 ihloopI =>
                  intro j t cr hj ht hz hc hv H locs ls hP hD hS hl
                  have hSb := mul_S x x cr i j t ht hc
                  refine lv_iload hx hb dX3_multiply_38 (lv_at hl 7 rfl) ?_
                  refine lv_iload_n hx hb dX3_multiply_40 rfl (lv_at hl 3 rfl) ?_
                  refine lv_icmp_ge (tgt := 94) hx hb dX3_multiply_41 (by decide) (fun c => ?_) (fun c => ?_)
                  · exact absurd c (nI_ge (a := j) (b := n) (by omega) (by omega))
                  · refine lv_aload hx hb dX3_multiply_44 (lv_at hl 4 rfl) ?_
                    refine lv_iload hx hb dX3_multiply_46 (lv_at hl 5 rfl) ?_
                    refine lv_iload hx hb dX3_multiply_48 (lv_at hl 7 rfl) ?_
                    refine xk_iaddN hx hb i j (i + j) rfl rfl (by omega) dX3_multiply_50 ?_
                    refine xk_lald hx hb hK hP 1 1 rfl rfl (i + j) rfl (by omega) (by omega) dX3_multiply_51 ?_
                    refine lv_aload_n hx hb dX3_multiply_52 rfl (lv_at hl 0 rfl) ?_
                    refine lv_iload hx hb dX3_multiply_53 (lv_at hl 5 rfl) ?_
                    refine xk_lald hx hb hK hP 0 1 rfl rfl i rfl (by omega) (by omega) dX3_multiply_55 ?_
                    refine lv_aload_n hx hb dX3_multiply_56 rfl (lv_at hl 2 rfl) ?_
                    refine lv_iload hx hb dX3_multiply_57 (lv_at hl 7 rfl) ?_
                    refine xk_lald hx hb hK hP 0 1 rfl rfl j rfl (by omega) (by omega) dX3_multiply_59 ?_
                    refine lv_lmul hx hb dX3_multiply_60 ?_
                    refine lv_ladd hx hb dX3_multiply_61 ?_
                    refine lv_lload hx hb dX3_multiply_62 (lv_at hl 6 rfl) ?_
                    refine lv_ladd hx hb dX3_multiply_64 ?_
                    refine xk_asl (lN (t (i + j) + mo_d x i * mo_d x j + cr)) (by show (lN _ + lN _ * lN _) + lN _ = _; rw [lN_mul, lN_add, lN_add]) ?_
                    refine lv_lstore (lv' := [(9, .long (lN (t (i + j) + mo_d x i * mo_d x j + cr))), (0, .ref pa), (1, .int (nI n)), (2, .ref pa), (3, .int (nI n)), (4, .ref pt), (5, .int (nI i)), (6, .long (lN cr)), (8, .int (nI j))]) hx hb dX3_multiply_65 hl (by decide) rfl (fun ls hl => ?_)
                    refine lv_aload hx hb dX3_multiply_67 (lv_at hl 5 rfl) ?_
                    refine lv_iload hx hb dX3_multiply_69 (lv_at hl 6 rfl) ?_
                    refine lv_iload hx hb dX3_multiply_71 (lv_at hl 8 rfl) ?_
                    refine xk_iaddN hx hb i j (i + j) rfl rfl (by omega) dX3_multiply_73 ?_
                    refine lv_lload hx hb dX3_multiply_74 (lv_at hl 0 rfl) ?_
                    refine lv_ldc2 (v := 65535) hx hb hown kc_49 dX3_multiply_76 ?_
                    refine lv_land hx hb dX3_multiply_79 ?_
                    refine xk_asl (lN ((t (i + j) + mo_d x i * mo_d x j + cr) % 65536)) (lN_and16 _ (by omega)) ?_
                    refine xk_last hx hb hK hP hD hS 1 1 rfl rfl (i + j) rfl (by omega) (by omega) dX3_multiply_80 (fun H locs hP hD hS => ?_)
                    have hP : va_P D classes [(pa, .inl (cL, n, .inr (.inl (mo_D x)))), (pt, .inl (cL, n + n, .inr (.inl (vp_updL (fL_ t) (i + j) (lN ((t (i + j) + mo_d x i * mo_d x j + cr) % 65536))))))] H := hP
                    have hD : va_D A [(pa, .inl (cL, n, .inr (.inl (mo_D x)))), (pt, .inl (cL, n + n, .inr (.inl (vp_updL (fL_ t) (i + j) (lN ((t (i + j) + mo_d x i * mo_d x j + cr) % 65536))))))] := hD
                    generalize eL2 : vp_updL (fL_ t) (i + j) (lN ((t (i + j) + mo_d x i * mo_d x j + cr) % 65536)) = L2 at hP hD
                    subst eL2
                    rw [fL_upd] at hP hD
                    refine lv_lload hx hb dX3_multiply_81 (lv_at hl 0 rfl) ?_
                    refine lv_bipush (v := 16) hx hb dX3_multiply_83 (by decide) ?_
                    refine lv_lshr (v := (xm_r (lN (t (i + j) + mo_d x i * mo_d x j + cr)) 16)) hx hb dX3_multiply_85 rfl ?_
                    refine xk_asl (lN ((t (i + j) + mo_d x i * mo_d x j + cr) / 65536)) (lN_shr16 _ (by omega)) ?_
                    refine lv_lstore (lv' := [(6, .long (lN ((t (i + j) + mo_d x i * mo_d x j + cr) / 65536))), (9, .long (lN (t (i + j) + mo_d x i * mo_d x j + cr))), (0, .ref pa), (1, .int (nI n)), (2, .ref pa), (3, .int (nI n)), (4, .ref pt), (5, .int (nI i)), (8, .int (nI j))]) hx hb dX3_multiply_86 hl (by decide) rfl (fun ls hl => ?_)
                    refine lv_iinc (v := nI (j + 1)) (lv' := [(8, .int (nI (j + 1))), (6, .long (lN ((t (i + j) + mo_d x i * mo_d x j + cr) / 65536))), (9, .long (lN (t (i + j) + mo_d x i * mo_d x j + cr))), (0, .ref pa), (1, .int (nI n)), (2, .ref pa), (3, .int (nI n)), (4, .ref pt), (5, .int (nI i))]) hx hb dX3_multiply_88 hl (k := 8) rfl (xk_i1 (by omega)) (by decide) rfl (fun ls hl => ?_)
                    refine lv_goto (tgt := 38) hx hb dX3_multiply_91 (by decide) ?_
                    exact ihloopI (j + 1) (nu_ t (i + j) ((t (i + j) + mo_d x i * mo_d x j + cr) % 65536)) ((t (i + j) + mo_d x i * mo_d x j + cr) / 65536) (by omega) (nu_lt ht (by omega)) (fun q hq => by rw [nu_n t _ (by omega)]; exact hz q (by omega)) (by omega) (mul_in x x cr i j _ t ht hc (by omega) hv) _ _ _ hP hD hS (lv_sub hl [3, 4, 5, 6, 7, 8, 1, 0] rfl)
              exact loopI n 0 t 0 (Nat.zero_add _) ht hz (by omega) (by rw [Nat.zero_mul, Nat.add_zero, hv, Nat.pow_zero, Nat.mod_one, Nat.mul_zero, Nat.zero_mul, Nat.add_zero]) _ _ _ hP hD hS (lv_sub hl [2, 3, 4, 5, 6, 7, 1, 0] rfl)
        exact loopO n 0 (fun _ => 0) (Nat.zero_add _) (fun _ => by omega) (fun _ _ => rfl) (by rw [v_zero, Nat.pow_zero, Nat.mod_one, Nat.zero_mul]) _ _ _ hP hD hS (lv_sub hl [1, 2, 3, 4, 5, 0] rfl)
      · exact absurd (nI_le (a := (n + n)) (b := (n + n)) (by omega) (by omega)) c
    | succ d ihloopZ =>
      intro k hk H locs ls hP hD hS hl
      refine lv_iload hx hb dX3_multiply_3 (lv_at hl 5 rfl) ?_
      refine lv_iload_n hx hb dX3_multiply_5 rfl (lv_at hl 1 rfl) ?_
      refine lv_iload_n hx hb dX3_multiply_6 rfl (lv_at hl 3 rfl) ?_
      refine xk_iaddN hx hb n n (n + n) rfl rfl (by omega) dX3_multiply_7 ?_
      refine lv_icmp_ge (tgt := 23) hx hb dX3_multiply_8 (by decide) (fun c => ?_) (fun c => ?_)
      · exact absurd c (nI_ge (a := k) (b := (n + n)) (by omega) (by omega))
      · refine lv_aload hx hb dX3_multiply_11 (lv_at hl 4 rfl) ?_
        refine lv_iload hx hb dX3_multiply_13 (lv_at hl 5 rfl) ?_
        refine lv_lconst (v := 0) hx hb dX3_multiply_15 rfl ?_
        refine xk_last hx hb hK hP hD hS 1 1 rfl rfl k rfl (by omega) (by omega) dX3_multiply_16 (fun H locs hP hD hS => ?_)
        have hP : va_P D classes [(pa, .inl (cL, n, .inr (.inl (mo_D x)))), (pt, .inl (cL, n + n, .inr (.inl (vp_updL (mo_z g k) k 0))))] H := hP
        have hD : va_D A [(pa, .inl (cL, n, .inr (.inl (mo_D x)))), (pt, .inl (cL, n + n, .inr (.inl (vp_updL (mo_z g k) k 0))))] := hD
        generalize eL3 : vp_updL (mo_z g k) k 0 = L3 at hP hD
        refine lv_iinc (v := nI (k + 1)) (lv' := [(5, .int (nI (k + 1))), (0, .ref pa), (1, .int (nI n)), (2, .ref pa), (3, .int (nI n)), (4, .ref pt)]) hx hb dX3_multiply_17 hl (k := 5) rfl (xk_i1 (by omega)) (by decide) rfl (fun ls hl => ?_)
        refine lv_goto (tgt := 3) hx hb dX3_multiply_20 (by decide) ?_
        subst eL3
        exact ihloopZ (k + 1) (by omega) _ _ _ hP hD hS (lv_sub hl [1, 2, 3, 4, 5, 0] rfl)
  exact loopZ (n + n) 0 (Nat.zero_add _) _ _ _ hP hD hS (lv_sub hl [1, 2, 3, 4, 5, 0] rfl)
abbrev rm_X3_multiply_d : Room := { frames := 0, cells := 0, slots := 0, locals := 0 }
set_option maxHeartbeats 4000000 in
set_option maxRecDepth 100000 in
theorem c_X3_multiply_d (l : Launch) (D : va_G) (cI cL : ClassId) (sz : Nat) (pa : Nat) (pb : Nat) (pt : Nat) (n : Nat) (mm : Nat) (x : Nat) (y : Nat) (g : Nat → Int64) (hn : n < 100) (hm : mm < 100) (hxn : x < 65536 ^ n) (hym : y < 65536 ^ mm) : xk_V l yX3_multiply wsX3_multiply rm_X3_multiply_d xk_0 D classes [(cI, .int), (cL, .long)] [.ref pa, .int (nI n), .ref pb, .int (nI mm), .ref pt] [(pa, .inl (cL, n, .inr (.inl (mo_D x)))), (pb, .inl (cL, mm, .inr (.inl (mo_D y)))), (pt, .inl (cL, n + mm, .inr (.inl g)))] [(pa, .inl (cL, n, .inr (.inl (mo_D x)))), (pb, .inl (cL, mm, .inr (.inl (mo_D y)))), (pt, .inl (cL, n + mm, .inr (.inl (mo_D (x * y)))))] sz := by
  refine xk_entV (cc := cX3_multiply) (maxL := 11) (by decide) rfl (Nat.le_of_ble_eq_true rfl) ?_
  intro p e s m args below meth co Q A ls hx hb hml hts hown hA hK hP hD hS hX ret hl
  have hl : lv_has ls 11 [(0, .ref pa), (1, .int (nI n)), (2, .ref pb), (3, .int (nI mm)), (4, .ref pt)] := hl
  have kc_49 := hts (.constantLong RX3 49 (65535)) (by decide +kernel)
  refine lv_iconst (v := 0) hx hb dX3_multiply_0 (by decide) ?_
  refine lv_istore (lv' := [(5, .int 0), (0, .ref pa), (1, .int (nI n)), (2, .ref pb), (3, .int (nI mm)), (4, .ref pt)]) hx hb dX3_multiply_1 hl (by decide) rfl (fun ls hl => ?_)
  have loopZ : ∀ (d : Nat) (k : Nat), (hk : k + d = n + mm) → ∀ (H : Heap) (locs : List Loc) (ls : Array Slot), va_P D classes [(pa, .inl (cL, n, .inr (.inl (mo_D x)))), (pb, .inl (cL, mm, .inr (.inl (mo_D y)))), (pt, .inl (cL, n + mm, .inr (.inl (mo_z g k))))] H → va_D A [(pa, .inl (cL, n, .inr (.inl (mo_D x)))), (pb, .inl (cL, mm, .inr (.inl (mo_D y)))), (pt, .inl (cL, n + mm, .inr (.inl (mo_z g k))))] → va_S A s.heap H locs → lv_has ls 11 [(0, .ref pa), (1, .int (nI n)), (2, .ref pb), (3, .int (nI mm)), (4, .ref pt), (5, .int (nI k))] → W p l e rm_X3_multiply_d s m args below meth co H locs 0 0 Q (F0 m 3 ls []) := by
    intro d
    induction d with
    | zero =>
      intro k hk H locs ls hP hD hS hl
      obtain rfl : k = n + mm := by omega
      refine lv_iload hx hb dX3_multiply_3 (lv_at hl 5 rfl) ?_
      refine lv_iload_n hx hb dX3_multiply_5 rfl (lv_at hl 1 rfl) ?_
      refine lv_iload_n hx hb dX3_multiply_6 rfl (lv_at hl 3 rfl) ?_
      refine xk_iaddN hx hb n mm (n + mm) rfl rfl (by omega) dX3_multiply_7 ?_
      refine lv_icmp_ge (tgt := 23) hx hb dX3_multiply_8 (by decide) (fun c => ?_) (fun c => ?_)
      · have hP := xk_congL hP 2 rfl (g := fL_ (fun _ => 0)) (fun j hj => mo_z_at g _ j hj)
        have hD := va_D.set (p := 2) (e := .inl (cL, n + mm, .inr (.inl (fL_ (fun _ => 0))))) hD rfl
        have hP : va_P D classes [(pa, .inl (cL, n, .inr (.inl (mo_D x)))), (pb, .inl (cL, mm, .inr (.inl (mo_D y)))), (pt, .inl (cL, n + mm, .inr (.inl (fL_ (fun _ => 0)))))] H := hP
        have hD : va_D A [(pa, .inl (cL, n, .inr (.inl (mo_D x)))), (pb, .inl (cL, mm, .inr (.inl (mo_D y)))), (pt, .inl (cL, n + mm, .inr (.inl (fL_ (fun _ => 0)))))] := hD
        refine lv_iconst (v := 0) hx hb dX3_multiply_23 (by decide) ?_
        refine lv_istore (lv' := [(5, .int 0), (0, .ref pa), (1, .int (nI n)), (2, .ref pb), (3, .int (nI mm)), (4, .ref pt)]) hx hb dX3_multiply_24 hl (by decide) rfl (fun ls hl => ?_)
        have loopO : ∀ (d : Nat) (i : Nat) (t : Nat → Nat), (hi : i + d = n) → (ht : ∀ q, t q < 65536) → (hz : ∀ q, i + mm ≤ q → t q = 0) → (hv : mo_v t (n + mm) = (x % 65536 ^ i) * y) → ∀ (H : Heap) (locs : List Loc) (ls : Array Slot), va_P D classes [(pa, .inl (cL, n, .inr (.inl (mo_D x)))), (pb, .inl (cL, mm, .inr (.inl (mo_D y)))), (pt, .inl (cL, n + mm, .inr (.inl (fL_ t))))] H → va_D A [(pa, .inl (cL, n, .inr (.inl (mo_D x)))), (pb, .inl (cL, mm, .inr (.inl (mo_D y)))), (pt, .inl (cL, n + mm, .inr (.inl (fL_ t))))] → va_S A s.heap H locs → lv_has ls 11 [(0, .ref pa), (1, .int (nI n)), (2, .ref pb), (3, .int (nI mm)), (4, .ref pt), (5, .int (nI i))] → W p l e rm_X3_multiply_d s m args below meth co H locs 0 0 Q (F0 m 26 ls []) := by
          intro d
          induction d with
          | zero =>
            intro i t hi ht hz hv H locs ls hP hD hS hl
            obtain rfl : n = i := by omega
            refine lv_iload hx hb dX3_multiply_26 (lv_at hl 5 rfl) ?_
            refine lv_iload_n hx hb dX3_multiply_28 rfl (lv_at hl 1 rfl) ?_
            refine lv_icmp_ge (tgt := 109) hx hb dX3_multiply_29 (by decide) (fun c => ?_) (fun c => ?_)
            · have hP := xk_congL hP 2 rfl (g := mo_D (x * y)) (v_fL (fun j _ => ht j) (by rw [hv, Nat.mod_eq_of_lt hxn]))
              have hD := va_D.set (p := 2) (e := .inl (cL, n + mm, .inr (.inl (mo_D (x * y))))) hD rfl
              have hP : va_P D classes [(pa, .inl (cL, n, .inr (.inl (mo_D x)))), (pb, .inl (cL, mm, .inr (.inl (mo_D y)))), (pt, .inl (cL, n + mm, .inr (.inl (mo_D (x * y)))))] H := hP
              have hD : va_D A [(pa, .inl (cL, n, .inr (.inl (mo_D x)))), (pb, .inl (cL, mm, .inr (.inl (mo_D y)))), (pt, .inl (cL, n + mm, .inr (.inl (mo_D (x * y)))))] := hD
              exact ret _ _ _ _ hP hD hS dX3_multiply_109
            · exact absurd (nI_le (a := n) (b := n) (by omega) (by omega)) c
          | succ d ihloopO =>
            intro i t hi ht hz hv H locs ls hP hD hS hl
            refine lv_iload hx hb dX3_multiply_26 (lv_at hl 5 rfl) ?_
            refine lv_iload_n hx hb dX3_multiply_28 rfl (lv_at hl 1 rfl) ?_
            refine lv_icmp_ge (tgt := 109) hx hb dX3_multiply_29 (by decide) (fun c => ?_) (fun c => ?_)
            · exact absurd c (nI_ge (a := i) (b := n) (by omega) (by omega))
            · refine lv_lconst (v := 0) hx hb dX3_multiply_32 rfl ?_
              refine lv_lstore (lv' := [(6, .long 0), (0, .ref pa), (1, .int (nI n)), (2, .ref pb), (3, .int (nI mm)), (4, .ref pt), (5, .int (nI i))]) hx hb dX3_multiply_33 hl (by decide) rfl (fun ls hl => ?_)
              refine lv_iconst (v := 0) hx hb dX3_multiply_35 (by decide) ?_
              refine lv_istore (lv' := [(8, .int 0), (6, .long 0), (0, .ref pa), (1, .int (nI n)), (2, .ref pb), (3, .int (nI mm)), (4, .ref pt), (5, .int (nI i))]) hx hb dX3_multiply_36 hl (by decide) rfl (fun ls hl => ?_)
              have loopI : ∀ (d2 : Nat) (j : Nat) (t : Nat → Nat) (cr : Nat), (hj : j + d2 = mm) → (ht : ∀ q, t q < 65536) → (hz : ∀ q, i + mm ≤ q → t q = 0) → (hc : cr < 65536) → (hv : mo_v t (n + mm) + cr * 65536 ^ (i + j) = (x % 65536 ^ i) * y + mo_d x i * (y % 65536 ^ j) * 65536 ^ i) → ∀ (H : Heap) (locs : List Loc) (ls : Array Slot), va_P D classes [(pa, .inl (cL, n, .inr (.inl (mo_D x)))), (pb, .inl (cL, mm, .inr (.inl (mo_D y)))), (pt, .inl (cL, n + mm, .inr (.inl (fL_ t))))] H → va_D A [(pa, .inl (cL, n, .inr (.inl (mo_D x)))), (pb, .inl (cL, mm, .inr (.inl (mo_D y)))), (pt, .inl (cL, n + mm, .inr (.inl (fL_ t))))] → va_S A s.heap H locs → lv_has ls 11 [(0, .ref pa), (1, .int (nI n)), (2, .ref pb), (3, .int (nI mm)), (4, .ref pt), (5, .int (nI i)), (6, .long (lN cr)), (8, .int (nI j))] → W p l e rm_X3_multiply_d s m args below meth co H locs 0 0 Q (F0 m 38 ls []) := by
                intro d2
                induction d2 with
                | zero =>
                  intro j t cr hj ht hz hc hv H locs ls hP hD hS hl
                  obtain rfl : mm = j := by omega
                  refine lv_iload hx hb dX3_multiply_38 (lv_at hl 7 rfl) ?_
                  refine lv_iload_n hx hb dX3_multiply_40 rfl (lv_at hl 3 rfl) ?_
                  refine lv_icmp_ge (tgt := 94) hx hb dX3_multiply_41 (by decide) (fun c => ?_) (fun c => ?_)
                  · refine lv_aload hx hb dX3_multiply_94 (lv_at hl 4 rfl) ?_
                    refine lv_iload hx hb dX3_multiply_96 (lv_at hl 5 rfl) ?_
                    refine lv_iload_n hx hb dX3_multiply_98 rfl (lv_at hl 3 rfl) ?_
                    refine xk_iaddN hx hb i mm (i + mm) rfl rfl (by omega) dX3_multiply_99 ?_
                    refine lv_lload hx hb dX3_multiply_100 (lv_at hl 6 rfl) ?_
                    refine xk_last hx hb hK hP hD hS 2 1 rfl rfl (i + mm) rfl (by omega) (by omega) dX3_multiply_102 (fun H locs hP hD hS => ?_)
                    have hP : va_P D classes [(pa, .inl (cL, n, .inr (.inl (mo_D x)))), (pb, .inl (cL, mm, .inr (.inl (mo_D y)))), (pt, .inl (cL, n + mm, .inr (.inl (vp_updL (fL_ t) (i + mm) (lN cr)))))] H := hP
                    have hD : va_D A [(pa, .inl (cL, n, .inr (.inl (mo_D x)))), (pb, .inl (cL, mm, .inr (.inl (mo_D y)))), (pt, .inl (cL, n + mm, .inr (.inl (vp_updL (fL_ t) (i + mm) (lN cr)))))] := hD
                    generalize eL1 : vp_updL (fL_ t) (i + mm) (lN cr) = L1 at hP hD
                    subst eL1
                    rw [fL_upd] at hP hD
                    refine lv_iinc (v := nI (i + 1)) (lv' := [(5, .int (nI (i + 1))), (0, .ref pa), (1, .int (nI n)), (2, .ref pb), (3, .int (nI mm)), (4, .ref pt), (6, .long (lN cr)), (8, .int (nI mm))]) hx hb dX3_multiply_103 hl (k := 5) rfl (xk_i1 (by omega)) (by decide) rfl (fun ls hl => ?_)
                    refine lv_goto (tgt := 26) hx hb dX3_multiply_106 (by decide) ?_
                    exact ihloopO (i + 1) (nu_ t (i + mm) cr) (by omega) (nu_lt ht hc) (fun q hq => by rw [nu_n t cr (by omega)]; exact hz q (by omega)) (mul_out x y cr i mm _ t hym (hz _ (Nat.le_refl _)) (by omega) hv) _ _ _ hP hD hS (lv_sub hl [1, 2, 3, 4, 5, 0] rfl)
                  · exact absurd (nI_le (a := mm) (b := mm) (by omega) (by omega)) c
                | succ d2 ihloopI =>
                  intro j t cr hj ht hz hc hv H locs ls hP hD hS hl
                  have hSb := mul_S x y cr i j t ht hc
                  refine lv_iload hx hb dX3_multiply_38 (lv_at hl 7 rfl) ?_
                  refine lv_iload_n hx hb dX3_multiply_40 rfl (lv_at hl 3 rfl) ?_
                  refine lv_icmp_ge (tgt := 94) hx hb dX3_multiply_41 (by decide) (fun c => ?_) (fun c => ?_)
                  · exact absurd c (nI_ge (a := j) (b := mm) (by omega) (by omega))
                  · refine lv_aload hx hb dX3_multiply_44 (lv_at hl 4 rfl) ?_
                    refine lv_iload hx hb dX3_multiply_46 (lv_at hl 5 rfl) ?_
                    refine lv_iload hx hb dX3_multiply_48 (lv_at hl 7 rfl) ?_
                    refine xk_iaddN hx hb i j (i + j) rfl rfl (by omega) dX3_multiply_50 ?_
                    refine xk_lald hx hb hK hP 2 1 rfl rfl (i + j) rfl (by omega) (by omega) dX3_multiply_51 ?_
                    refine lv_aload_n hx hb dX3_multiply_52 rfl (lv_at hl 0 rfl) ?_
                    refine lv_iload hx hb dX3_multiply_53 (lv_at hl 5 rfl) ?_
                    refine xk_lald hx hb hK hP 0 1 rfl rfl i rfl (by omega) (by omega) dX3_multiply_55 ?_
                    refine lv_aload_n hx hb dX3_multiply_56 rfl (lv_at hl 2 rfl) ?_
                    refine lv_iload hx hb dX3_multiply_57 (lv_at hl 7 rfl) ?_
                    refine xk_lald hx hb hK hP 1 1 rfl rfl j rfl (by omega) (by omega) dX3_multiply_59 ?_
                    refine lv_lmul hx hb dX3_multiply_60 ?_
                    refine lv_ladd hx hb dX3_multiply_61 ?_
                    refine lv_lload hx hb dX3_multiply_62 (lv_at hl 6 rfl) ?_
                    refine lv_ladd hx hb dX3_multiply_64 ?_
                    refine xk_asl (lN (t (i + j) + mo_d x i * mo_d y j + cr)) (by show (lN _ + lN _ * lN _) + lN _ = _; rw [lN_mul, lN_add, lN_add]) ?_
                    refine lv_lstore (lv' := [(9, .long (lN (t (i + j) + mo_d x i * mo_d y j + cr))), (0, .ref pa), (1, .int (nI n)), (2, .ref pb), (3, .int (nI mm)), (4, .ref pt), (5, .int (nI i)), (6, .long (lN cr)), (8, .int (nI j))]) hx hb dX3_multiply_65 hl (by decide) rfl (fun ls hl => ?_)
                    refine lv_aload hx hb dX3_multiply_67 (lv_at hl 5 rfl) ?_
                    refine lv_iload hx hb dX3_multiply_69 (lv_at hl 6 rfl) ?_
                    refine lv_iload hx hb dX3_multiply_71 (lv_at hl 8 rfl) ?_
                    refine xk_iaddN hx hb i j (i + j) rfl rfl (by omega) dX3_multiply_73 ?_
                    refine lv_lload hx hb dX3_multiply_74 (lv_at hl 0 rfl) ?_
                    refine lv_ldc2 (v := 65535) hx hb hown kc_49 dX3_multiply_76 ?_
                    refine lv_land hx hb dX3_multiply_79 ?_
                    refine xk_asl (lN ((t (i + j) + mo_d x i * mo_d y j + cr) % 65536)) (lN_and16 _ (by omega)) ?_
                    refine xk_last hx hb hK hP hD hS 2 1 rfl rfl (i + j) rfl (by omega) (by omega) dX3_multiply_80 (fun H locs hP hD hS => ?_)
                    have hP : va_P D classes [(pa, .inl (cL, n, .inr (.inl (mo_D x)))), (pb, .inl (cL, mm, .inr (.inl (mo_D y)))), (pt, .inl (cL, n + mm, .inr (.inl (vp_updL (fL_ t) (i + j) (lN ((t (i + j) + mo_d x i * mo_d y j + cr) % 65536))))))] H := hP
                    have hD : va_D A [(pa, .inl (cL, n, .inr (.inl (mo_D x)))), (pb, .inl (cL, mm, .inr (.inl (mo_D y)))), (pt, .inl (cL, n + mm, .inr (.inl (vp_updL (fL_ t) (i + j) (lN ((t (i + j) + mo_d x i * mo_d y j + cr) % 65536))))))] := hD
                    generalize eL2 : vp_updL (fL_ t) (i + j) (lN ((t (i + j) + mo_d x i * mo_d y j + cr) % 65536)) = L2 at hP hD
                    subst eL2
                    rw [fL_upd] at hP hD
                    refine lv_lload hx hb dX3_multiply_81 (lv_at hl 0 rfl) ?_
                    refine lv_bipush (v := 16) hx hb dX3_multiply_83 (by decide) ?_
                    refine lv_lshr (v := (xm_r (lN (t (i + j) + mo_d x i * mo_d y j + cr)) 16)) hx hb dX3_multiply_85 rfl ?_
                    refine xk_asl (lN ((t (i + j) + mo_d x i * mo_d y j + cr) / 65536)) (lN_shr16 _ (by omega)) ?_
                    refine lv_lstore (lv' := [(6, .long (lN ((t (i + j) + mo_d x i * mo_d y j + cr) / 65536))), (9, .long (lN (t (i + j) + mo_d x i * mo_d y j + cr))), (0, .ref pa), (1, .int (nI n)), (2, .ref pb), (3, .int (nI mm)), (4, .ref pt), (5, .int (nI i)), (8, .int (nI j))]) hx hb dX3_multiply_86 hl (by decide) rfl (fun ls hl => ?_)
                    refine lv_iinc (v := nI (j + 1)) (lv' := [(8, .int (nI (j + 1))), (6, .long (lN ((t (i + j) + mo_d x i * mo_d y j + cr) / 65536))), (9, .long (lN (t (i + j) + mo_d x i * mo_d y j + cr))), (0, .ref pa), (1, .int (nI n)), (2, .ref pb), (3, .int (nI mm)), (4, .ref pt), (5, .int (nI i))]) hx hb dX3_multiply_88 hl (k := 8) rfl (xk_i1 (by omega)) (by decide) rfl (fun ls hl => ?_)
                    refine lv_goto (tgt := 38) hx hb dX3_multiply_91 (by decide) ?_
                    exact ihloopI (j + 1) (nu_ t (i + j) ((t (i + j) + mo_d x i * mo_d y j + cr) % 65536)) ((t (i + j) + mo_d x i * mo_d y j + cr) / 65536) (by omega) (nu_lt ht (by omega)) (fun q hq => by rw [nu_n t _ (by omega)]; exact hz q (by omega)) (by omega) (mul_in x y cr i j _ t ht hc (by omega) hv) _ _ _ hP hD hS (lv_sub hl [3, 4, 5, 6, 7, 8, 1, 0] rfl)
              exact loopI mm 0 t 0 (Nat.zero_add _) ht hz (by omega) (by rw [Nat.zero_mul, Nat.add_zero, hv, Nat.pow_zero, Nat.mod_one, Nat.mul_zero, Nat.zero_mul, Nat.add_zero]) _ _ _ hP hD hS (lv_sub hl [2, 3, 4, 5, 6, 7, 1, 0] rfl)
        exact loopO n 0 (fun _ => 0) (Nat.zero_add _) (fun _ => by omega) (fun _ _ => rfl) (by rw [v_zero, Nat.pow_zero, Nat.mod_one, Nat.zero_mul]) _ _ _ hP hD hS (lv_sub hl [1, 2, 3, 4, 5, 0] rfl)
      · exact absurd (nI_le (a := (n + mm)) (b := (n + mm)) (by omega) (by omega)) c
    | succ d ihloopZ =>
      intro k hk H locs ls hP hD hS hl
      refine lv_iload hx hb dX3_multiply_3 (lv_at hl 5 rfl) ?_
      refine lv_iload_n hx hb dX3_multiply_5 rfl (lv_at hl 1 rfl) ?_
      refine lv_iload_n hx hb dX3_multiply_6 rfl (lv_at hl 3 rfl) ?_
      refine xk_iaddN hx hb n mm (n + mm) rfl rfl (by omega) dX3_multiply_7 ?_
      refine lv_icmp_ge (tgt := 23) hx hb dX3_multiply_8 (by decide) (fun c => ?_) (fun c => ?_)
      · exact absurd c (nI_ge (a := k) (b := (n + mm)) (by omega) (by omega))
      · refine lv_aload hx hb dX3_multiply_11 (lv_at hl 4 rfl) ?_
        refine lv_iload hx hb dX3_multiply_13 (lv_at hl 5 rfl) ?_
        refine lv_lconst (v := 0) hx hb dX3_multiply_15 rfl ?_
        refine xk_last hx hb hK hP hD hS 2 1 rfl rfl k rfl (by omega) (by omega) dX3_multiply_16 (fun H locs hP hD hS => ?_)
        have hP : va_P D classes [(pa, .inl (cL, n, .inr (.inl (mo_D x)))), (pb, .inl (cL, mm, .inr (.inl (mo_D y)))), (pt, .inl (cL, n + mm, .inr (.inl (vp_updL (mo_z g k) k 0))))] H := hP
        have hD : va_D A [(pa, .inl (cL, n, .inr (.inl (mo_D x)))), (pb, .inl (cL, mm, .inr (.inl (mo_D y)))), (pt, .inl (cL, n + mm, .inr (.inl (vp_updL (mo_z g k) k 0))))] := hD
        generalize eL3 : vp_updL (mo_z g k) k 0 = L3 at hP hD
        refine lv_iinc (v := nI (k + 1)) (lv' := [(5, .int (nI (k + 1))), (0, .ref pa), (1, .int (nI n)), (2, .ref pb), (3, .int (nI mm)), (4, .ref pt)]) hx hb dX3_multiply_17 hl (k := 5) rfl (xk_i1 (by omega)) (by decide) rfl (fun ls hl => ?_)
        refine lv_goto (tgt := 3) hx hb dX3_multiply_20 (by decide) ?_
        subst eL3
        exact ihloopZ (k + 1) (by omega) _ _ _ hP hD hS (lv_sub hl [1, 2, 3, 4, 5, 0] rfl)
  exact loopZ (n + mm) 0 (Nat.zero_add _) _ _ _ hP hD hS (lv_sub hl [1, 2, 3, 4, 5, 0] rfl)
