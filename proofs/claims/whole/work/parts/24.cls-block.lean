abbrev rm_X0_mixBlock : Room := { frames := 3, cells := 0, slots := 0, locals := 71 }
set_option maxHeartbeats 4000000 in
set_option maxRecDepth 100000 in
theorem c_X0_mixBlock (l : Launch) (D : va_G) (cI cL : ClassId) (sz : Nat) (h1 : Nat) (h4 : Nat) (h5 : Nat) (h6 : Nat) (fl : Int32) (tot : Nat → Int32) (lt : Nat → Int32) (sch : Nat → Int32) : xk_V l yX0_mixBlock wsX0_mixBlock rm_X0_mixBlock xs_X D classes [(cI, .int), (cL, .long)] [.ref h1] [(h1, .inr (0, [.ref h4, .ref h5, .ref h6, .int fl])), (h4, .inl (cI, 16, .inl tot)), (h5, .inl (cI, 16, .inl lt)), (h6, .inl (cI, 160, .inl sch))] [(h1, .inr (0, [.ref h4, .ref h5, .ref h6, .int fl])), (h4, .inl (cI, 16, .inl (jc_mbT xs_CR tot lt sch))), (h5, .inl (cI, 16, .inl (jc_mbL xs_CR tot lt sch))), (h6, .inl (cI, 160, .inl (jc_mbS sch)))] sz := by
  refine xk_entV (cc := cX0_mixBlock) (maxL := 2) (by decide) rfl (Nat.le_of_ble_eq_true rfl) ?_
  intro p e s m args below meth co Q A ls hx hb hml hts hown hA hK hP hD hS hX ret hl
  have hl : lv_has ls 2 [(0, .ref h1)] := hl
  have hi_0 : ∀ w ∈ u_ws RX0 TX0 4, w ∈ wsX0_mixBlock := by decide +kernel
  have fl_9 := hts (.fieldLink RX0 9 "WideHash$Sha" "total" "[I") (by decide +kernel)
  have fl_13 := hts (.fieldLink RX0 13 "WideHash$Sha" "letters" "[I") (by decide +kernel)
  have ml_26 := hts (.methodLink RX0 26 arraycopyName) (by decide +kernel)
  have na_ac := hts (.native arraycopyName) (by decide +kernel)
  have st_ac := hts (.static arraycopyName) (by decide +kernel)
  have in_sys := hts (.initialized "java/lang/System") (by decide +kernel)
  have in_X2 := hts (.initialized RX2) (by decide +kernel)
  have sm_45 := hts (.static yX2_addTo) (by decide +kernel)
  refine lv_bipush (v := 32) hx hb dX0_mixBlock_0 (by decide) ?_
  refine lv_istore_n (lv' := [(1, .int 32), (0, .ref h1)]) hx hb dX0_mixBlock_2 rfl hl (by decide) rfl (fun ls hl => ?_)
  have loopA : ∀ (d : Nat) (n : Nat), (hn : n + d = 64) → ∀ (H : Heap) (locs : List Loc) (ls : Array Slot), va_P D classes [(h1, .inr (0, [.ref h4, .ref h5, .ref h6, .int fl])), (h4, .inl (cI, 16, .inl tot)), (h5, .inl (cI, 16, .inl lt)), (h6, .inl (cI, 160, .inl (jc_exts sch n)))] H → va_D A [(h1, .inr (0, [.ref h4, .ref h5, .ref h6, .int fl])), (h4, .inl (cI, 16, .inl tot)), (h5, .inl (cI, 16, .inl lt)), (h6, .inl (cI, 160, .inl (jc_exts sch n)))] → va_S A s.heap H locs → lv_has ls 2 [(0, .ref h1), (1, .int (nI (32 + 2 * n)))] → W p l e rm_X0_mixBlock s m args below meth co H locs 0 0 Q (F0 m 3 ls []) := by
    intro d
    induction d with
    | zero =>
      intro n hn H locs ls hP hD hS hl
      obtain rfl : n = 64 := by omega
      refine lv_iload_n hx hb dX0_mixBlock_3 rfl (lv_at hl 1 rfl) ?_
      refine lv_sipush (v := 160) hx hb dX0_mixBlock_4 (by decide) ?_
      refine lv_icmp_ge (tgt := 21) hx hb dX0_mixBlock_7 (by decide) (fun c => ?_) (fun c => ?_)
      · refine lv_aload_n hx hb dX0_mixBlock_21 rfl (lv_at hl 0 rfl) ?_
        refine va_get (D := D) (ci := 0) (v := .ref h4) (C := RX0) (T := TX0) (N := 4) hx hb hts hi_0 hown hK hP 0 rfl rfl 0 (by decide) fl_9 (fun _ h9 => h9) rfl dX0_mixBlock_22 ?_
        refine lv_iconst (v := 0) hx hb dX0_mixBlock_25 (by decide) ?_
        refine lv_aload_n hx hb dX0_mixBlock_26 rfl (lv_at hl 0 rfl) ?_
        refine va_get (D := D) (ci := 0) (v := .ref h5) (C := RX0) (T := TX0) (N := 4) hx hb hts hi_0 hown hK hP 0 rfl rfl 1 (by decide) fl_13 (fun _ h9 => h9) rfl dX0_mixBlock_27 ?_
        refine lv_iconst (v := 0) hx hb dX0_mixBlock_30 (by decide) ?_
        refine lv_bipush (v := 16) hx hb dX0_mixBlock_31 (by decide) ?_
        refine xk_copyi hx hb (by rw [hml]; exact hl.1.symm) hown ml_26 na_ac st_ac in_sys hK hP hD hS 1 2 0 0 rfl rfl rfl rfl (sp := 0) (dp := 0) (n := 16) 0 0 16 rfl rfl rfl (by omega) (by omega) (by decide) (by decide) (Nat.le_of_ble_eq_true rfl) (Nat.le_of_ble_eq_true rfl) dX0_mixBlock_33 (fun H locs hP hD hS => ?_)
        have hP : va_P D classes [(h1, .inr (0, [.ref h4, .ref h5, .ref h6, .int fl])), (h4, .inl (cI, 16, .inl tot)), (h5, .inl (cI, 16, .inl (va_cpy tot lt 0 0 16))), (h6, .inl (cI, 160, .inl (jc_exts sch 64)))] H := hP
        have hD : va_D A [(h1, .inr (0, [.ref h4, .ref h5, .ref h6, .int fl])), (h4, .inl (cI, 16, .inl tot)), (h5, .inl (cI, 16, .inl (va_cpy tot lt 0 0 16))), (h6, .inl (cI, 160, .inl (jc_exts sch 64)))] := hD
        generalize eL1 : va_cpy tot lt 0 0 16 = L1 at hP hD
        refine lv_iconst (v := 0) hx hb dX0_mixBlock_36 (by decide) ?_
        refine lv_istore_n (lv' := [(1, .int 0), (0, .ref h1)]) hx hb dX0_mixBlock_37 rfl hl (by decide) rfl (fun ls hl => ?_)
        subst eL1
        have loopB : ∀ (d : Nat) (n : Nat), (hn : n + d = 80) → ∀ (H : Heap) (locs : List Loc) (ls : Array Slot), va_P D classes [(h1, .inr (0, [.ref h4, .ref h5, .ref h6, .int fl])), (h4, .inl (cI, 16, .inl tot)), (h5, .inl (cI, 16, .inl (jc_rounds xs_CR (va_cpy tot lt 0 0 16) (jc_mbS sch) n))), (h6, .inl (cI, 160, .inl (jc_mbS sch)))] H → va_D A [(h1, .inr (0, [.ref h4, .ref h5, .ref h6, .int fl])), (h4, .inl (cI, 16, .inl tot)), (h5, .inl (cI, 16, .inl (jc_rounds xs_CR (va_cpy tot lt 0 0 16) (jc_mbS sch) n))), (h6, .inl (cI, 160, .inl (jc_mbS sch)))] → va_S A s.heap H locs → lv_has ls 2 [(0, .ref h1), (1, .int (nI (2 * n)))] → W p l e rm_X0_mixBlock s m args below meth co H locs 0 0 Q (F0 m 38 ls []) := by
          intro d
          induction d with
          | zero =>
            intro n hn H locs ls hP hD hS hl
            obtain rfl : n = 80 := by omega
            refine lv_iload_n hx hb dX0_mixBlock_38 rfl (lv_at hl 1 rfl) ?_
            refine lv_sipush (v := 160) hx hb dX0_mixBlock_39 (by decide) ?_
            refine lv_icmp_ge (tgt := 56) hx hb dX0_mixBlock_42 (by decide) (fun c => ?_) (fun c => ?_)
            · refine lv_iconst (v := 0) hx hb dX0_mixBlock_56 (by decide) ?_
              refine lv_istore_n (lv' := [(1, .int 0), (0, .ref h1)]) hx hb dX0_mixBlock_57 rfl hl (by decide) rfl (fun ls hl => ?_)
              have loopC : ∀ (d : Nat) (n : Nat), (hn : n + d = 8) → ∀ (H : Heap) (locs : List Loc) (ls : Array Slot), va_P D classes [(h1, .inr (0, [.ref h4, .ref h5, .ref h6, .int fl])), (h4, .inl (cI, 16, .inl (jc_adds tot (jc_mbL xs_CR tot lt sch) n))), (h5, .inl (cI, 16, .inl (jc_mbL xs_CR tot lt sch))), (h6, .inl (cI, 160, .inl (jc_mbS sch)))] H → va_D A [(h1, .inr (0, [.ref h4, .ref h5, .ref h6, .int fl])), (h4, .inl (cI, 16, .inl (jc_adds tot (jc_mbL xs_CR tot lt sch) n))), (h5, .inl (cI, 16, .inl (jc_mbL xs_CR tot lt sch))), (h6, .inl (cI, 160, .inl (jc_mbS sch)))] → va_S A s.heap H locs → lv_has ls 2 [(0, .ref h1), (1, .int (nI (2 * n)))] → W p l e rm_X0_mixBlock s m args below meth co H locs 0 0 Q (F0 m 58 ls []) := by
                intro d
                induction d with
                | zero =>
                  intro n hn H locs ls hP hD hS hl
                  obtain rfl : n = 8 := by omega
                  refine lv_iload_n hx hb dX0_mixBlock_58 rfl (lv_at hl 1 rfl) ?_
                  refine lv_bipush (v := 16) hx hb dX0_mixBlock_59 (by decide) ?_
                  refine lv_icmp_ge (tgt := 92) hx hb dX0_mixBlock_61 (by decide) (fun c => ?_) (fun c => ?_)
                  · exact ret _ _ _ _ hP hD hS dX0_mixBlock_92
                  · exact absurd (nI_le (a := 16) (b := (2 * 8)) (by omega) (by omega)) c
                | succ d ihloopC =>
                  intro n hn H locs ls hP hD hS hl
                  refine lv_iload_n hx hb dX0_mixBlock_58 rfl (lv_at hl 1 rfl) ?_
                  refine lv_bipush (v := 16) hx hb dX0_mixBlock_59 (by decide) ?_
                  refine lv_icmp_ge (tgt := 92) hx hb dX0_mixBlock_61 (by decide) (fun c => ?_) (fun c => ?_)
                  · exact absurd c (nI_ge (a := (2 * n)) (b := 16) (by omega) (by omega))
                  · refine lv_aload_n hx hb dX0_mixBlock_64 rfl (lv_at hl 0 rfl) ?_
                    refine va_get (D := D) (ci := 0) (v := .ref h4) (C := RX0) (T := TX0) (N := 4) hx hb hts hi_0 hown hK hP 0 rfl rfl 0 (by decide) fl_9 (fun _ h9 => h9) rfl dX0_mixBlock_65 ?_
                    refine lv_iload_n hx hb dX0_mixBlock_68 rfl (lv_at hl 1 rfl) ?_
                    refine lv_aload_n hx hb dX0_mixBlock_69 rfl (lv_at hl 0 rfl) ?_
                    refine va_get (D := D) (ci := 0) (v := .ref h5) (C := RX0) (T := TX0) (N := 4) hx hb hts hi_0 hown hK hP 0 rfl rfl 1 (by decide) fl_13 (fun _ h9 => h9) rfl dX0_mixBlock_70 ?_
                    refine lv_iload_n hx hb dX0_mixBlock_73 rfl (lv_at hl 1 rfl) ?_
                    refine xk_iald hx hb hK hP 2 0 rfl rfl (2 * n) rfl (by omega) (by decide) dX0_mixBlock_74 ?_
                    refine lv_aload_n hx hb dX0_mixBlock_75 rfl (lv_at hl 0 rfl) ?_
                    refine va_get (D := D) (ci := 0) (v := .ref h5) (C := RX0) (T := TX0) (N := 4) hx hb hts hi_0 hown hK hP 0 rfl rfl 1 (by decide) fl_13 (fun _ h9 => h9) rfl dX0_mixBlock_76 ?_
                    refine lv_iload_n hx hb dX0_mixBlock_79 rfl (lv_at hl 1 rfl) ?_
                    refine lv_iconst (v := 1) hx hb dX0_mixBlock_80 (by decide) ?_
                    refine xk_iaddN hx hb (2 * n) 1 ((2 * n) + 1) rfl rfl (by omega) dX0_mixBlock_81 ?_
                    refine xk_iald hx hb hK hP 2 0 rfl rfl ((2 * n) + 1) rfl (by omega) (by decide) dX0_mixBlock_82 ?_
                    refine xk_goV (wr := [(h1, .inr (0, [.ref h4, .ref h5, .ref h6, .int fl])), (h5, .inl (cI, 16, .inl (jc_mbL xs_CR tot lt sch))), (h6, .inl (cI, 160, .inl (jc_mbS sch)))]) (w2 := [(h1, .inr (0, [.ref h4, .ref h5, .ref h6, .int fl])), (h4, .inl (cI, 16, .inl (jc_addTo (jc_adds tot (jc_mbL xs_CR tot lt sch) n) (2 * n) ((jc_mbL xs_CR tot lt sch) (2 * n)) ((jc_mbL xs_CR tot lt sch) ((2 * n) + 1))))), (h5, .inl (cI, 16, .inl (jc_mbL xs_CR tot lt sch))), (h6, .inl (cI, 160, .inl (jc_mbS sch)))]) (va_runSN (As := [.ref h4, .int (nI (2 * n)), .int ((jc_mbL xs_CR tot lt sch) (2 * n)), .int ((jc_mbL xs_CR tot lt sch) ((2 * n) + 1))]) (rest := []) ⟨hx, hb, hml, hown, hts⟩ (c_X2_addTo l D cI cL H.size h4 16 (jc_adds tot (jc_mbL xs_CR tot lt sch) n) (2 * n) ((jc_mbL xs_CR tot lt sch) (2 * n)) ((jc_mbL xs_CR tot lt sch) ((2 * n) + 1)) (by omega) (by omega)) ⟨va_cnB 4 hts gX0_mixBlock_X2_addTo_n45 rfl rfl rfl (xs_n0_45 hX) in_X2 (by decide +kernel) ⟨Nat.le_of_ble_eq_true rfl, Nat.le_of_ble_eq_true rfl⟩, sm_45, trivial⟩ ⟨xk_blind xk_0_ok, xk_at xk_0_ok trivial hP hD hK hS hA [1] rfl (by decide) rfl⟩ rfl rfl hl.1 rfl (lv_room (Nat.le_of_ble_eq_true rfl)) dX0_mixBlock_83 ⟨Nat.le_of_ble_eq_true rfl, Nat.le_of_ble_eq_true rfl⟩) hP hD hS hA [1] [0, 2, 3] [0, 3, 1, 2] rfl rfl (by decide) (by decide) rfl (by decide) rfl (fun H locs hP hD hS => ?_)
                    generalize eL2 : jc_addTo (jc_adds tot (jc_mbL xs_CR tot lt sch) n) (2 * n) ((jc_mbL xs_CR tot lt sch) (2 * n)) ((jc_mbL xs_CR tot lt sch) ((2 * n) + 1)) = L2 at hP hD
                    refine lv_iinc (v := nI (2 * (n + 1))) (lv' := [(1, .int (nI (2 * (n + 1)))), (0, .ref h1)]) hx hb dX0_mixBlock_86 hl (k := 1) rfl (xk_i2 (by omega)) (by decide) rfl (fun ls hl => ?_)
                    refine lv_goto (tgt := 58) hx hb dX0_mixBlock_89 (by decide) ?_
                    subst eL2
                    exact ihloopC (n + 1) (by omega) _ _ _ hP hD hS (lv_sub hl [1, 0] rfl)
              exact loopC 8 0 rfl _ _ _ hP hD hS (lv_sub hl [1, 0] rfl)
            · exact absurd (nI_le (a := 160) (b := (2 * 80)) (by omega) (by omega)) c
          | succ d ihloopB =>
            intro n hn H locs ls hP hD hS hl
            refine lv_iload_n hx hb dX0_mixBlock_38 rfl (lv_at hl 1 rfl) ?_
            refine lv_sipush (v := 160) hx hb dX0_mixBlock_39 (by decide) ?_
            refine lv_icmp_ge (tgt := 56) hx hb dX0_mixBlock_42 (by decide) (fun c => ?_) (fun c => ?_)
            · exact absurd c (nI_ge (a := (2 * n)) (b := 160) (by omega) (by omega))
            · refine lv_aload_n hx hb dX0_mixBlock_45 rfl (lv_at hl 0 rfl) ?_
              refine lv_iload_n hx hb dX0_mixBlock_46 rfl (lv_at hl 1 rfl) ?_
              refine xk_goV (wr := [(h4, .inl (cI, 16, .inl tot))]) (w2 := [(h1, .inr (0, [.ref h4, .ref h5, .ref h6, .int fl])), (h4, .inl (cI, 16, .inl tot)), (h5, .inl (cI, 16, .inl (jc_round xs_CR (jc_rounds xs_CR (va_cpy tot lt 0 0 16) (jc_mbS sch) n) (jc_mbS sch) (2 * n)))), (h6, .inl (cI, 160, .inl (jc_mbS sch)))]) (va_runV (As := [.int (nI (2 * n))]) (rest := []) ⟨hx, hb, hml, hown, hts⟩ (c_X0_mixRound l D cI cL H.size h1 h4 h5 h6 fl (jc_rounds xs_CR (va_cpy tot lt 0 0 16) (jc_mbS sch) n) (jc_mbS sch) (2 * n) (by omega)) (cwV 1 hts gX0_mixBlock_X0_mixRound rfl rfl rfl (by decide +kernel) ⟨Nat.le_of_ble_eq_true rfl, Nat.le_of_ble_eq_true rfl⟩) ⟨xk_blind xs_X_ok, va_recv hK hP (ci := 0) (q0 := 0) rfl rfl, xk_at xs_X_ok hX hP hD hK hS hA [0, 2, 3] rfl (by decide) rfl⟩ rfl rfl hl.1 rfl (lv_room (Nat.le_of_ble_eq_true rfl)) dX0_mixBlock_47 ⟨Nat.le_of_ble_eq_true rfl, Nat.le_of_ble_eq_true rfl⟩) hP hD hS hA [0, 2, 3] [1] [1, 0, 2, 3] rfl rfl (by decide) (by decide) rfl (by decide) rfl (fun H locs hP hD hS => ?_)
              generalize eL3 : jc_round xs_CR (jc_rounds xs_CR (va_cpy tot lt 0 0 16) (jc_mbS sch) n) (jc_mbS sch) (2 * n) = L3 at hP hD
              generalize eL4 : (jc_mbS sch) = L4 at hP hD
              refine lv_iinc (v := nI (2 * (n + 1))) (lv' := [(1, .int (nI (2 * (n + 1)))), (0, .ref h1)]) hx hb dX0_mixBlock_50 hl (k := 1) rfl (xk_i2 (by omega)) (by decide) rfl (fun ls hl => ?_)
              refine lv_goto (tgt := 38) hx hb dX0_mixBlock_53 (by decide) ?_
              subst eL3
              subst eL4
              exact ihloopB (n + 1) (by omega) _ _ _ hP hD hS (lv_sub hl [1, 0] rfl)
        exact loopB 80 0 rfl _ _ _ hP hD hS (lv_sub hl [1, 0] rfl)
      · exact absurd (nI_le (a := 160) (b := (32 + 2 * 64)) (by omega) (by omega)) c
    | succ d ihloopA =>
      intro n hn H locs ls hP hD hS hl
      refine lv_iload_n hx hb dX0_mixBlock_3 rfl (lv_at hl 1 rfl) ?_
      refine lv_sipush (v := 160) hx hb dX0_mixBlock_4 (by decide) ?_
      refine lv_icmp_ge (tgt := 21) hx hb dX0_mixBlock_7 (by decide) (fun c => ?_) (fun c => ?_)
      · exact absurd c (nI_ge (a := (32 + 2 * n)) (b := 160) (by omega) (by omega))
      · refine lv_aload_n hx hb dX0_mixBlock_10 rfl (lv_at hl 0 rfl) ?_
        refine lv_iload_n hx hb dX0_mixBlock_11 rfl (lv_at hl 1 rfl) ?_
        refine xk_goV (wr := [(h4, .inl (cI, 16, .inl tot)), (h5, .inl (cI, 16, .inl lt))]) (w2 := [(h1, .inr (0, [.ref h4, .ref h5, .ref h6, .int fl])), (h4, .inl (cI, 16, .inl tot)), (h5, .inl (cI, 16, .inl lt)), (h6, .inl (cI, 160, .inl (jc_extend (jc_exts sch n) (32 + 2 * n))))]) (va_runV (As := [.int (nI (32 + 2 * n))]) (rest := []) ⟨hx, hb, hml, hown, hts⟩ (c_X0_extend l D cI cL H.size h1 h4 h5 h6 fl (jc_exts sch n) (32 + 2 * n) (by omega) (by omega)) (cwV 1 hts gX0_mixBlock_X0_extend rfl rfl rfl (by decide +kernel) ⟨Nat.le_of_ble_eq_true rfl, Nat.le_of_ble_eq_true rfl⟩) ⟨xk_blind xs_X_ok, va_recv hK hP (ci := 0) (q0 := 0) rfl rfl, xk_at xs_X_ok hX hP hD hK hS hA [0, 3] rfl (by decide) rfl⟩ rfl rfl hl.1 rfl (lv_room (Nat.le_of_ble_eq_true rfl)) dX0_mixBlock_12 ⟨Nat.le_of_ble_eq_true rfl, Nat.le_of_ble_eq_true rfl⟩) hP hD hS hA [0, 3] [1, 2] [2, 0, 1, 3] rfl rfl (by decide) (by decide) rfl (by decide) rfl (fun H locs hP hD hS => ?_)
        generalize eL5 : jc_extend (jc_exts sch n) (32 + 2 * n) = L5 at hP hD
        refine lv_iinc (v := nI (32 + 2 * (n + 1))) (lv' := [(1, .int (nI (32 + 2 * (n + 1)))), (0, .ref h1)]) hx hb dX0_mixBlock_15 hl (k := 1) rfl (xk_i2 (by omega)) (by decide) rfl (fun ls hl => ?_)
        refine lv_goto (tgt := 3) hx hb dX0_mixBlock_18 (by decide) ?_
        subst eL5
        exact ihloopA (n + 1) (by omega) _ _ _ hP hD hS (lv_sub hl [1, 0] rfl)
  exact loopA 64 0 rfl _ _ _ hP hD hS (lv_sub hl [1, 0] rfl)
