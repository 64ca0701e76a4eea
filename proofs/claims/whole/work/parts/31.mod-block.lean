abbrev rm_X3_shaBlock : Room := { frames := 1, cells := 0, slots := 0, locals := 23 }
set_option maxHeartbeats 4000000 in
set_option maxRecDepth 100000 in
theorem c_X3_shaBlock (l : Launch) (D : va_G) (cI cL : ClassId) (sz : Nat) (m0 : Nat) (m1 : Nat) (m2 : Nat) (m3 : Nat) (m4 : Nat) (m5 : Nat) (m6 : Nat) (m7 : Nat) (m8 : Nat) (m9 : Nat) (m10 : Nat) (rd : Int32) (md : Int32) (cd : Int32) (ln : Int32) (pp : Int64) (qq : Int64) (hd : Int32) (rs : Nat → Int32) (st : Nat → Int64) (cu : Nat → Int64) (ww : Nat → Int64) (rr : Nat → Int64) : xk_V l yX3_shaBlock wsX3_shaBlock rm_X3_shaBlock xk_0 D classes [(cI, .int), (cL, .long)] [.ref m0] [(m0, .inr (3, [.int rd, .int md, .int cd, .int ln, .ref m1, .long pp, .long qq, .ref m2, .int hd, .ref m3, .ref m4, .ref m5, .ref m6, .ref m7, .ref m8, .ref m9, .ref m10])), (m2, .inl (cI, 128, .inl rs)), (m3, .inl (cL, 8, .inr (.inl st))), (m4, .inl (cL, 80, .inr (.inl cu))), (m6, .inl (cL, 80, .inr (.inl ww))), (m7, .inl (cL, 8, .inr (.inl rr)))] [(m0, .inr (3, [.int rd, .int md, .int cd, .int ln, .ref m1, .long pp, .long qq, .ref m2, .int hd, .ref m3, .ref m4, .ref m5, .ref m6, .ref m7, .ref m8, .ref m9, .ref m10])), (m2, .inl (cI, 128, .inl rs)), (m3, .inl (cL, 8, .inr (.inl (mo_bS cu st ww rr rs)))), (m4, .inl (cL, 80, .inr (.inl cu))), (m6, .inl (cL, 80, .inr (.inl (mo_bW ww rs)))), (m7, .inl (cL, 8, .inr (.inl (mo_bR cu st ww rr rs))))] sz := by
  refine xk_entV (cc := cX3_shaBlock) (maxL := 17) (by decide) rfl (Nat.le_of_ble_eq_true rfl) ?_
  intro p e s m args below meth co Q A ls hx hb hml hts hown hA hK hP hD hS hX ret hl
  have hl : lv_has ls 17 [(0, .ref m0)] := hl
  have hi_3 : ∀ w ∈ u_ws RX3 TX3 17, w ∈ wsX3_shaBlock := by decide +kernel
  have fl_13 := hts (.fieldLink RX3 13 "WideHashModel" "rest" "[I") (by decide +kernel)
  have fl_26 := hts (.fieldLink RX3 26 "WideHashModel" "w" "[J") (by decide +kernel)
  have fl_29 := hts (.fieldLink RX3 29 "WideHashModel" "\x72" "[J") (by decide +kernel)
  have fl_16 := hts (.fieldLink RX3 16 "WideHashModel" "state" "[J") (by decide +kernel)
  have kc_69 := hts (.constantLong RX3 69 (-1)) (by decide +kernel)
  have fl_20 := hts (.fieldLink RX3 20 "WideHashModel" "cubes" "[J") (by decide +kernel)
  refine lv_iconst (v := 0) hx hb dX3_shaBlock_0 (by decide) ?_
  refine lv_istore_n (lv' := [(1, .int 0), (0, .ref m0)]) hx hb dX3_shaBlock_1 rfl hl (by decide) rfl (fun ls hl => ?_)
  have loopA : ∀ (d : Nat) (t : Nat), (ht : t + d = 80) → ∀ (H : Heap) (locs : List Loc) (ls : Array Slot), va_P D classes [(m0, .inr (3, [.int rd, .int md, .int cd, .int ln, .ref m1, .long pp, .long qq, .ref m2, .int hd, .ref m3, .ref m4, .ref m5, .ref m6, .ref m7, .ref m8, .ref m9, .ref m10])), (m2, .inl (cI, 128, .inl rs)), (m3, .inl (cL, 8, .inr (.inl st))), (m4, .inl (cL, 80, .inr (.inl cu))), (m6, .inl (cL, 80, .inr (.inl (mo_ws ww rs t)))), (m7, .inl (cL, 8, .inr (.inl rr)))] H → va_D A [(m0, .inr (3, [.int rd, .int md, .int cd, .int ln, .ref m1, .long pp, .long qq, .ref m2, .int hd, .ref m3, .ref m4, .ref m5, .ref m6, .ref m7, .ref m8, .ref m9, .ref m10])), (m2, .inl (cI, 128, .inl rs)), (m3, .inl (cL, 8, .inr (.inl st))), (m4, .inl (cL, 80, .inr (.inl cu))), (m6, .inl (cL, 80, .inr (.inl (mo_ws ww rs t)))), (m7, .inl (cL, 8, .inr (.inl rr)))] → va_S A s.heap H locs → lv_has ls 17 [(0, .ref m0), (1, .int (nI t))] → W p l e rm_X3_shaBlock s m args below meth co H locs 0 0 Q (F0 m 2 ls []) := by
    intro d
    induction d with
    | zero =>
      intro t ht H locs ls hP hD hS hl
      obtain rfl : t = 80 := by omega
      refine lv_iload_n hx hb dX3_shaBlock_2 rfl (lv_at hl 1 rfl) ?_
      refine lv_bipush (v := 80) hx hb dX3_shaBlock_3 (by decide) ?_
      refine lv_icmp_ge (tgt := 160) hx hb dX3_shaBlock_5 (by decide) (fun c => ?_) (fun c => ?_)
      · refine lv_iconst (v := 0) hx hb dX3_shaBlock_160 (by decide) ?_
        refine lv_istore_n (lv' := [(1, .int 0), (0, .ref m0)]) hx hb dX3_shaBlock_161 rfl hl (by decide) rfl (fun ls hl => ?_)
        have loopB : ∀ (d : Nat) (k : Nat), (hk : k + d = 8) → ∀ (H : Heap) (locs : List Loc) (ls : Array Slot), va_P D classes [(m0, .inr (3, [.int rd, .int md, .int cd, .int ln, .ref m1, .long pp, .long qq, .ref m2, .int hd, .ref m3, .ref m4, .ref m5, .ref m6, .ref m7, .ref m8, .ref m9, .ref m10])), (m2, .inl (cI, 128, .inl rs)), (m3, .inl (cL, 8, .inr (.inl st))), (m4, .inl (cL, 80, .inr (.inl cu))), (m6, .inl (cL, 80, .inr (.inl (mo_bW ww rs)))), (m7, .inl (cL, 8, .inr (.inl (mo_cp rr st k))))] H → va_D A [(m0, .inr (3, [.int rd, .int md, .int cd, .int ln, .ref m1, .long pp, .long qq, .ref m2, .int hd, .ref m3, .ref m4, .ref m5, .ref m6, .ref m7, .ref m8, .ref m9, .ref m10])), (m2, .inl (cI, 128, .inl rs)), (m3, .inl (cL, 8, .inr (.inl st))), (m4, .inl (cL, 80, .inr (.inl cu))), (m6, .inl (cL, 80, .inr (.inl (mo_bW ww rs)))), (m7, .inl (cL, 8, .inr (.inl (mo_cp rr st k))))] → va_S A s.heap H locs → lv_has ls 17 [(0, .ref m0), (1, .int (nI k))] → W p l e rm_X3_shaBlock s m args below meth co H locs 0 0 Q (F0 m 162 ls []) := by
          intro d
          induction d with
          | zero =>
            intro k hk H locs ls hP hD hS hl
            obtain rfl : k = 8 := by omega
            refine lv_iload_n hx hb dX3_shaBlock_162 rfl (lv_at hl 1 rfl) ?_
            refine lv_bipush (v := 8) hx hb dX3_shaBlock_163 (by decide) ?_
            refine lv_icmp_ge (tgt := 186) hx hb dX3_shaBlock_165 (by decide) (fun c => ?_) (fun c => ?_)
            · refine lv_iconst (v := 0) hx hb dX3_shaBlock_186 (by decide) ?_
              refine lv_istore_n (lv' := [(1, .int 0), (0, .ref m0)]) hx hb dX3_shaBlock_187 rfl hl (by decide) rfl (fun ls hl => ?_)
              have loopC : ∀ (d : Nat) (t : Nat), (ht : t + d = 80) → ∀ (H : Heap) (locs : List Loc) (ls : Array Slot), va_P D classes [(m0, .inr (3, [.int rd, .int md, .int cd, .int ln, .ref m1, .long pp, .long qq, .ref m2, .int hd, .ref m3, .ref m4, .ref m5, .ref m6, .ref m7, .ref m8, .ref m9, .ref m10])), (m2, .inl (cI, 128, .inl rs)), (m3, .inl (cL, 8, .inr (.inl st))), (m4, .inl (cL, 80, .inr (.inl cu))), (m6, .inl (cL, 80, .inr (.inl (mo_bW ww rs)))), (m7, .inl (cL, 8, .inr (.inl (mo_rds cu (mo_bW ww rs) (mo_cp rr st 8) t))))] H → va_D A [(m0, .inr (3, [.int rd, .int md, .int cd, .int ln, .ref m1, .long pp, .long qq, .ref m2, .int hd, .ref m3, .ref m4, .ref m5, .ref m6, .ref m7, .ref m8, .ref m9, .ref m10])), (m2, .inl (cI, 128, .inl rs)), (m3, .inl (cL, 8, .inr (.inl st))), (m4, .inl (cL, 80, .inr (.inl cu))), (m6, .inl (cL, 80, .inr (.inl (mo_bW ww rs)))), (m7, .inl (cL, 8, .inr (.inl (mo_rds cu (mo_bW ww rs) (mo_cp rr st 8) t))))] → va_S A s.heap H locs → lv_has ls 17 [(0, .ref m0), (1, .int (nI t))] → W p l e rm_X3_shaBlock s m args below meth co H locs 0 0 Q (F0 m 188 ls []) := by
                intro d
                induction d with
                | zero =>
                  intro t ht H locs ls hP hD hS hl
                  obtain rfl : t = 80 := by omega
                  refine lv_iload_n hx hb dX3_shaBlock_188 rfl (lv_at hl 1 rfl) ?_
                  refine lv_bipush (v := 80) hx hb dX3_shaBlock_189 (by decide) ?_
                  refine lv_icmp_ge (tgt := 432) hx hb dX3_shaBlock_191 (by decide) (fun c => ?_) (fun c => ?_)
                  · refine lv_iconst (v := 0) hx hb dX3_shaBlock_432 (by decide) ?_
                    refine lv_istore_n (lv' := [(1, .int 0), (0, .ref m0)]) hx hb dX3_shaBlock_433 rfl hl (by decide) rfl (fun ls hl => ?_)
                    have loopD : ∀ (d : Nat) (k : Nat), (hk : k + d = 8) → ∀ (H : Heap) (locs : List Loc) (ls : Array Slot), va_P D classes [(m0, .inr (3, [.int rd, .int md, .int cd, .int ln, .ref m1, .long pp, .long qq, .ref m2, .int hd, .ref m3, .ref m4, .ref m5, .ref m6, .ref m7, .ref m8, .ref m9, .ref m10])), (m2, .inl (cI, 128, .inl rs)), (m3, .inl (cL, 8, .inr (.inl (mo_ad st (mo_bR cu st ww rr rs) k)))), (m4, .inl (cL, 80, .inr (.inl cu))), (m6, .inl (cL, 80, .inr (.inl (mo_bW ww rs)))), (m7, .inl (cL, 8, .inr (.inl (mo_bR cu st ww rr rs))))] H → va_D A [(m0, .inr (3, [.int rd, .int md, .int cd, .int ln, .ref m1, .long pp, .long qq, .ref m2, .int hd, .ref m3, .ref m4, .ref m5, .ref m6, .ref m7, .ref m8, .ref m9, .ref m10])), (m2, .inl (cI, 128, .inl rs)), (m3, .inl (cL, 8, .inr (.inl (mo_ad st (mo_bR cu st ww rr rs) k)))), (m4, .inl (cL, 80, .inr (.inl cu))), (m6, .inl (cL, 80, .inr (.inl (mo_bW ww rs)))), (m7, .inl (cL, 8, .inr (.inl (mo_bR cu st ww rr rs))))] → va_S A s.heap H locs → lv_has ls 17 [(0, .ref m0), (1, .int (nI k))] → W p l e rm_X3_shaBlock s m args below meth co H locs 0 0 Q (F0 m 434 ls []) := by
                      intro d
                      induction d with
                      | zero =>
                        intro k hk H locs ls hP hD hS hl
                        obtain rfl : k = 8 := by omega
                        refine lv_iload_n hx hb dX3_shaBlock_434 rfl (lv_at hl 1 rfl) ?_
                        refine lv_bipush (v := 8) hx hb dX3_shaBlock_435 (by decide) ?_
                        refine lv_icmp_ge (tgt := 461) hx hb dX3_shaBlock_437 (by decide) (fun c => ?_) (fun c => ?_)
                        · exact ret _ _ _ _ hP hD hS dX3_shaBlock_461
                        · exact absurd (nI_le (a := 8) (b := 8) (by omega) (by omega)) c
                      | succ d ihloopD =>
                        intro k hk H locs ls hP hD hS hl
                        refine lv_iload_n hx hb dX3_shaBlock_434 rfl (lv_at hl 1 rfl) ?_
                        refine lv_bipush (v := 8) hx hb dX3_shaBlock_435 (by decide) ?_
                        refine lv_icmp_ge (tgt := 461) hx hb dX3_shaBlock_437 (by decide) (fun c => ?_) (fun c => ?_)
                        · exact absurd c (nI_ge (a := k) (b := 8) (by omega) (by omega))
                        · refine lv_aload_n hx hb dX3_shaBlock_440 rfl (lv_at hl 0 rfl) ?_
                          refine va_get (D := D) (ci := 3) (v := .ref m3) (C := RX3) (T := TX3) (N := 17) hx hb hts hi_3 hown hK hP 0 rfl rfl 9 (by decide) fl_16 (fun _ h9 => h9) rfl dX3_shaBlock_441 ?_
                          refine lv_iload_n hx hb dX3_shaBlock_444 rfl (lv_at hl 1 rfl) ?_
                          refine lv_dup2_11 hx hb dX3_shaBlock_445 rfl rfl ?_
                          refine xk_lald hx hb hK hP 2 1 rfl rfl k rfl (by omega) (by decide) dX3_shaBlock_446 ?_
                          refine lv_aload_n hx hb dX3_shaBlock_447 rfl (lv_at hl 0 rfl) ?_
                          refine va_get (D := D) (ci := 3) (v := .ref m7) (C := RX3) (T := TX3) (N := 17) hx hb hts hi_3 hown hK hP 0 rfl rfl 13 (by decide) fl_29 (fun _ h9 => h9) rfl dX3_shaBlock_448 ?_
                          refine lv_iload_n hx hb dX3_shaBlock_451 rfl (lv_at hl 1 rfl) ?_
                          refine xk_lald hx hb hK hP 5 1 rfl rfl k rfl (by omega) (by decide) dX3_shaBlock_452 ?_
                          refine lv_ladd hx hb dX3_shaBlock_453 ?_
                          refine xk_last hx hb hK hP hD hS 2 1 rfl rfl k rfl (by omega) (by decide) dX3_shaBlock_454 (fun H locs hP hD hS => ?_)
                          have hP : va_P D classes [(m0, .inr (3, [.int rd, .int md, .int cd, .int ln, .ref m1, .long pp, .long qq, .ref m2, .int hd, .ref m3, .ref m4, .ref m5, .ref m6, .ref m7, .ref m8, .ref m9, .ref m10])), (m2, .inl (cI, 128, .inl rs)), (m3, .inl (cL, 8, .inr (.inl (vp_updL (mo_ad st (mo_bR cu st ww rr rs) k) k (((mo_ad st (mo_bR cu st ww rr rs) k) k) + ((mo_bR cu st ww rr rs) k)))))), (m4, .inl (cL, 80, .inr (.inl cu))), (m6, .inl (cL, 80, .inr (.inl (mo_bW ww rs)))), (m7, .inl (cL, 8, .inr (.inl (mo_bR cu st ww rr rs))))] H := hP
                          have hD : va_D A [(m0, .inr (3, [.int rd, .int md, .int cd, .int ln, .ref m1, .long pp, .long qq, .ref m2, .int hd, .ref m3, .ref m4, .ref m5, .ref m6, .ref m7, .ref m8, .ref m9, .ref m10])), (m2, .inl (cI, 128, .inl rs)), (m3, .inl (cL, 8, .inr (.inl (vp_updL (mo_ad st (mo_bR cu st ww rr rs) k) k (((mo_ad st (mo_bR cu st ww rr rs) k) k) + ((mo_bR cu st ww rr rs) k)))))), (m4, .inl (cL, 80, .inr (.inl cu))), (m6, .inl (cL, 80, .inr (.inl (mo_bW ww rs)))), (m7, .inl (cL, 8, .inr (.inl (mo_bR cu st ww rr rs))))] := hD
                          generalize eL1 : vp_updL (mo_ad st (mo_bR cu st ww rr rs) k) k (((mo_ad st (mo_bR cu st ww rr rs) k) k) + ((mo_bR cu st ww rr rs) k)) = L1 at hP hD
                          refine lv_iinc (v := nI (k + 1)) (lv' := [(1, .int (nI (k + 1))), (0, .ref m0)]) hx hb dX3_shaBlock_455 hl (k := 1) rfl (xk_i1 (by omega)) (by decide) rfl (fun ls hl => ?_)
                          refine lv_goto (tgt := 434) hx hb dX3_shaBlock_458 (by decide) ?_
                          subst eL1
                          exact ihloopD (k + 1) (by omega) _ _ _ hP hD hS (lv_sub hl [1, 0] rfl)
                    exact loopD 8 0 rfl _ _ _ hP hD hS (lv_sub hl [1, 0] rfl)
                  · exact absurd (nI_le (a := 80) (b := 80) (by omega) (by omega)) c
                | succ d ihloopC =>
                  intro t ht H locs ls hP hD hS hl
                  generalize eL2 : mo_rds cu (mo_bW ww rs) (mo_cp rr st 8) t = L2 at hP hD
                  generalize eL3 : mo_bW ww rs = L3 at hP hD
                  refine lv_iload_n hx hb dX3_shaBlock_188 rfl (lv_at hl 1 rfl) ?_
                  refine lv_bipush (v := 80) hx hb dX3_shaBlock_189 (by decide) ?_
                  refine lv_icmp_ge (tgt := 432) hx hb dX3_shaBlock_191 (by decide) (fun c => ?_) (fun c => ?_)
                  · exact absurd c (nI_ge (a := t) (b := 80) (by omega) (by omega))
                  · refine lv_bipush (v := 80) hx hb dX3_shaBlock_194 (by decide) ?_
                    refine lv_iload_n hx hb dX3_shaBlock_196 rfl (lv_at hl 1 rfl) ?_
                    refine xk_isubN hx hb 80 t (80 - t) rfl rfl (by omega) dX3_shaBlock_197 ?_
                    refine lv_bipush (v := 8) hx hb dX3_shaBlock_198 (by decide) ?_
                    refine xk_iremN hx hb (80 - t) 8 ((80 - t) % 8) rfl rfl (by omega) (by decide) (by decide) (by omega) dX3_shaBlock_200 ?_
                    refine lv_istore_n (lv' := [(2, .int (nI ((80 - t) % 8))), (0, .ref m0), (1, .int (nI t))]) hx hb dX3_shaBlock_201 rfl hl (by decide) rfl (fun ls hl => ?_)
                    refine lv_aload_n hx hb dX3_shaBlock_202 rfl (lv_at hl 1 rfl) ?_
                    refine va_get (D := D) (ci := 3) (v := .ref m7) (C := RX3) (T := TX3) (N := 17) hx hb hts hi_3 hown hK hP 0 rfl rfl 13 (by decide) fl_29 (fun _ h9 => h9) rfl dX3_shaBlock_203 ?_
                    refine lv_iload_n hx hb dX3_shaBlock_206 rfl (lv_at hl 0 rfl) ?_
                    refine lv_iconst (v := 4) hx hb dX3_shaBlock_207 (by decide) ?_
                    refine xk_iaddN hx hb ((80 - t) % 8) 4 (((80 - t) % 8) + 4) rfl rfl (by omega) dX3_shaBlock_208 ?_
                    refine lv_bipush (v := 8) hx hb dX3_shaBlock_209 (by decide) ?_
                    refine xk_iremN hx hb (((80 - t) % 8) + 4) 8 ((((80 - t) % 8) + 4) % 8) rfl rfl (by omega) (by decide) (by decide) (by omega) dX3_shaBlock_211 ?_
                    refine xk_lald hx hb hK hP 5 1 rfl rfl ((((80 - t) % 8) + 4) % 8) rfl (by omega) (by decide) dX3_shaBlock_212 ?_
                    refine lv_lstore_n (lv' := [(3, .long (L2 ((((80 - t) % 8) + 4) % 8))), (2, .int (nI ((80 - t) % 8))), (0, .ref m0), (1, .int (nI t))]) hx hb dX3_shaBlock_213 rfl hl (by decide) rfl (fun ls hl => ?_)
                    refine lv_aload_n hx hb dX3_shaBlock_214 rfl (lv_at hl 2 rfl) ?_
                    refine va_get (D := D) (ci := 3) (v := .ref m7) (C := RX3) (T := TX3) (N := 17) hx hb hts hi_3 hown hK hP 0 rfl rfl 13 (by decide) fl_29 (fun _ h9 => h9) rfl dX3_shaBlock_215 ?_
                    refine lv_iload_n hx hb dX3_shaBlock_218 rfl (lv_at hl 1 rfl) ?_
                    refine lv_iconst (v := 5) hx hb dX3_shaBlock_219 (by decide) ?_
                    refine xk_iaddN hx hb ((80 - t) % 8) 5 (((80 - t) % 8) + 5) rfl rfl (by omega) dX3_shaBlock_220 ?_
                    refine lv_bipush (v := 8) hx hb dX3_shaBlock_221 (by decide) ?_
                    refine xk_iremN hx hb (((80 - t) % 8) + 5) 8 ((((80 - t) % 8) + 5) % 8) rfl rfl (by omega) (by decide) (by decide) (by omega) dX3_shaBlock_223 ?_
                    refine xk_lald hx hb hK hP 5 1 rfl rfl ((((80 - t) % 8) + 5) % 8) rfl (by omega) (by decide) dX3_shaBlock_224 ?_
                    refine lv_lstore (lv' := [(5, .long (L2 ((((80 - t) % 8) + 5) % 8))), (3, .long (L2 ((((80 - t) % 8) + 4) % 8))), (2, .int (nI ((80 - t) % 8))), (0, .ref m0), (1, .int (nI t))]) hx hb dX3_shaBlock_225 hl (by decide) rfl (fun ls hl => ?_)
                    refine lv_aload_n hx hb dX3_shaBlock_227 rfl (lv_at hl 3 rfl) ?_
                    refine va_get (D := D) (ci := 3) (v := .ref m7) (C := RX3) (T := TX3) (N := 17) hx hb hts hi_3 hown hK hP 0 rfl rfl 13 (by decide) fl_29 (fun _ h9 => h9) rfl dX3_shaBlock_228 ?_
                    refine lv_iload_n hx hb dX3_shaBlock_231 rfl (lv_at hl 2 rfl) ?_
                    refine lv_bipush (v := 6) hx hb dX3_shaBlock_232 (by decide) ?_
                    refine xk_iaddN hx hb ((80 - t) % 8) 6 (((80 - t) % 8) + 6) rfl rfl (by omega) dX3_shaBlock_234 ?_
                    refine lv_bipush (v := 8) hx hb dX3_shaBlock_235 (by decide) ?_
                    refine xk_iremN hx hb (((80 - t) % 8) + 6) 8 ((((80 - t) % 8) + 6) % 8) rfl rfl (by omega) (by decide) (by decide) (by omega) dX3_shaBlock_237 ?_
                    refine xk_lald hx hb hK hP 5 1 rfl rfl ((((80 - t) % 8) + 6) % 8) rfl (by omega) (by decide) dX3_shaBlock_238 ?_
                    refine lv_lstore (lv' := [(7, .long (L2 ((((80 - t) % 8) + 6) % 8))), (5, .long (L2 ((((80 - t) % 8) + 5) % 8))), (3, .long (L2 ((((80 - t) % 8) + 4) % 8))), (2, .int (nI ((80 - t) % 8))), (0, .ref m0), (1, .int (nI t))]) hx hb dX3_shaBlock_239 hl (by decide) rfl (fun ls hl => ?_)
                    refine lv_aload_n hx hb dX3_shaBlock_241 rfl (lv_at hl 4 rfl) ?_
                    refine va_get (D := D) (ci := 3) (v := .ref m7) (C := RX3) (T := TX3) (N := 17) hx hb hts hi_3 hown hK hP 0 rfl rfl 13 (by decide) fl_29 (fun _ h9 => h9) rfl dX3_shaBlock_242 ?_
                    refine lv_iload_n hx hb dX3_shaBlock_245 rfl (lv_at hl 3 rfl) ?_
                    refine lv_bipush (v := 7) hx hb dX3_shaBlock_246 (by decide) ?_
                    refine xk_iaddN hx hb ((80 - t) % 8) 7 (((80 - t) % 8) + 7) rfl rfl (by omega) dX3_shaBlock_248 ?_
                    refine lv_bipush (v := 8) hx hb dX3_shaBlock_249 (by decide) ?_
                    refine xk_iremN hx hb (((80 - t) % 8) + 7) 8 ((((80 - t) % 8) + 7) % 8) rfl rfl (by omega) (by decide) (by decide) (by omega) dX3_shaBlock_251 ?_
                    refine xk_lald hx hb hK hP 5 1 rfl rfl ((((80 - t) % 8) + 7) % 8) rfl (by omega) (by decide) dX3_shaBlock_252 ?_
                    refine lv_lload_n hx hb dX3_shaBlock_253 rfl (lv_at hl 2 rfl) ?_
                    refine lv_bipush (v := 14) hx hb dX3_shaBlock_254 (by decide) ?_
                    refine xk_goPL (r := (mo_right (L2 ((((80 - t) % 8) + 4) % 8)) 14)) (va_runS (As := [.long (L2 ((((80 - t) % 8) + 4) % 8)), .int 14]) (rest := [.long (L2 ((((80 - t) % 8) + 7) % 8))]) ⟨hx, hb, hml, hown, hts⟩ (c_X3_right l D (L2 ((((80 - t) % 8) + 4) % 8)) 14) (va_cwS 2 hts gX3_shaBlock_X3_right rfl rfl rfl (by decide +kernel) ⟨Nat.le_of_ble_eq_true rfl, Nat.le_of_ble_eq_true rfl⟩) preEq rfl rfl hl.1 rfl (lv_room (Nat.le_of_ble_eq_true rfl)) dX3_shaBlock_256 ⟨Nat.le_of_ble_eq_true rfl, Nat.le_of_ble_eq_true rfl⟩) hP hS (fun H locs hP hS => ?_)
                    refine lv_lload_n hx hb dX3_shaBlock_259 rfl (lv_at hl 2 rfl) ?_
                    refine lv_bipush (v := 18) hx hb dX3_shaBlock_260 (by decide) ?_
                    refine xk_goPL (r := (mo_right (L2 ((((80 - t) % 8) + 4) % 8)) 18)) (va_runS (As := [.long (L2 ((((80 - t) % 8) + 4) % 8)), .int 18]) (rest := [.long (mo_right (L2 ((((80 - t) % 8) + 4) % 8)) 14), .long (L2 ((((80 - t) % 8) + 7) % 8))]) ⟨hx, hb, hml, hown, hts⟩ (c_X3_right l D (L2 ((((80 - t) % 8) + 4) % 8)) 18) (va_cwS 2 hts gX3_shaBlock_X3_right rfl rfl rfl (by decide +kernel) ⟨Nat.le_of_ble_eq_true rfl, Nat.le_of_ble_eq_true rfl⟩) preEq rfl rfl hl.1 rfl (lv_room (Nat.le_of_ble_eq_true rfl)) dX3_shaBlock_262 ⟨Nat.le_of_ble_eq_true rfl, Nat.le_of_ble_eq_true rfl⟩) hP hS (fun H locs hP hS => ?_)
                    refine lv_lxor hx hb dX3_shaBlock_265 ?_
                    refine lv_lload_n hx hb dX3_shaBlock_266 rfl (lv_at hl 2 rfl) ?_
                    refine lv_bipush (v := 41) hx hb dX3_shaBlock_267 (by decide) ?_
                    refine xk_goPL (r := (mo_right (L2 ((((80 - t) % 8) + 4) % 8)) 41)) (va_runS (As := [.long (L2 ((((80 - t) % 8) + 4) % 8)), .int 41]) (rest := [.long ((mo_right (L2 ((((80 - t) % 8) + 4) % 8)) 14) ^^^ (mo_right (L2 ((((80 - t) % 8) + 4) % 8)) 18)), .long (L2 ((((80 - t) % 8) + 7) % 8))]) ⟨hx, hb, hml, hown, hts⟩ (c_X3_right l D (L2 ((((80 - t) % 8) + 4) % 8)) 41) (va_cwS 2 hts gX3_shaBlock_X3_right rfl rfl rfl (by decide +kernel) ⟨Nat.le_of_ble_eq_true rfl, Nat.le_of_ble_eq_true rfl⟩) preEq rfl rfl hl.1 rfl (lv_room (Nat.le_of_ble_eq_true rfl)) dX3_shaBlock_269 ⟨Nat.le_of_ble_eq_true rfl, Nat.le_of_ble_eq_true rfl⟩) hP hS (fun H locs hP hS => ?_)
                    refine lv_lxor hx hb dX3_shaBlock_272 ?_
                    refine lv_ladd hx hb dX3_shaBlock_273 ?_
                    refine lv_lload_n hx hb dX3_shaBlock_274 rfl (lv_at hl 2 rfl) ?_
                    refine lv_lload hx hb dX3_shaBlock_275 (lv_at hl 1 rfl) ?_
                    refine lv_land hx hb dX3_shaBlock_277 ?_
                    refine lv_lload_n hx hb dX3_shaBlock_278 rfl (lv_at hl 2 rfl) ?_
                    refine lv_ldc2 (v := (-1)) hx hb hown kc_69 dX3_shaBlock_279 ?_
                    refine lv_lxor hx hb dX3_shaBlock_282 ?_
                    refine lv_lload hx hb dX3_shaBlock_283 (lv_at hl 0 rfl) ?_
                    refine lv_land hx hb dX3_shaBlock_285 ?_
                    refine lv_lxor hx hb dX3_shaBlock_286 ?_
                    refine lv_ladd hx hb dX3_shaBlock_287 ?_
                    refine lv_aload_n hx hb dX3_shaBlock_288 rfl (lv_at hl 4 rfl) ?_
                    refine va_get (D := D) (ci := 3) (v := .ref m4) (C := RX3) (T := TX3) (N := 17) hx hb hts hi_3 hown hK hP 0 rfl rfl 10 (by decide) fl_20 (fun _ h9 => h9) rfl dX3_shaBlock_289 ?_
                    refine lv_iload_n hx hb dX3_shaBlock_292 rfl (lv_at hl 5 rfl) ?_
                    refine xk_lald hx hb hK hP 3 1 rfl rfl t rfl (by omega) (by decide) dX3_shaBlock_293 ?_
                    refine lv_ladd hx hb dX3_shaBlock_294 ?_
                    refine lv_aload_n hx hb dX3_shaBlock_295 rfl (lv_at hl 4 rfl) ?_
                    refine va_get (D := D) (ci := 3) (v := .ref m6) (C := RX3) (T := TX3) (N := 17) hx hb hts hi_3 hown hK hP 0 rfl rfl 12 (by decide) fl_26 (fun _ h9 => h9) rfl dX3_shaBlock_296 ?_
                    refine lv_iload_n hx hb dX3_shaBlock_299 rfl (lv_at hl 5 rfl) ?_
                    refine xk_lald hx hb hK hP 4 1 rfl rfl t rfl (by omega) (by decide) dX3_shaBlock_300 ?_
                    refine lv_ladd hx hb dX3_shaBlock_301 ?_
                    refine lv_lstore (lv' := [(9, .long (((((L2 ((((80 - t) % 8) + 7) % 8)) + (((mo_right (L2 ((((80 - t) % 8) + 4) % 8)) 14) ^^^ (mo_right (L2 ((((80 - t) % 8) + 4) % 8)) 18)) ^^^ (mo_right (L2 ((((80 - t) % 8) + 4) % 8)) 41))) + (((L2 ((((80 - t) % 8) + 4) % 8)) &&& (L2 ((((80 - t) % 8) + 5) % 8))) ^^^ (((L2 ((((80 - t) % 8) + 4) % 8)) ^^^ (-1)) &&& (L2 ((((80 - t) % 8) + 6) % 8))))) + (cu t)) + (L3 t))), (7, .long (L2 ((((80 - t) % 8) + 6) % 8))), (5, .long (L2 ((((80 - t) % 8) + 5) % 8))), (3, .long (L2 ((((80 - t) % 8) + 4) % 8))), (2, .int (nI ((80 - t) % 8))), (0, .ref m0), (1, .int (nI t))]) hx hb dX3_shaBlock_302 hl (by decide) rfl (fun ls hl => ?_)
                    refine lv_aload_n hx hb dX3_shaBlock_304 rfl (lv_at hl 5 rfl) ?_
                    refine va_get (D := D) (ci := 3) (v := .ref m7) (C := RX3) (T := TX3) (N := 17) hx hb hts hi_3 hown hK hP 0 rfl rfl 13 (by decide) fl_29 (fun _ h9 => h9) rfl dX3_shaBlock_305 ?_
                    refine lv_iload_n hx hb dX3_shaBlock_308 rfl (lv_at hl 4 rfl) ?_
                    refine lv_iconst (v := 1) hx hb dX3_shaBlock_309 (by decide) ?_
                    refine xk_iaddN hx hb ((80 - t) % 8) 1 (((80 - t) % 8) + 1) rfl rfl (by omega) dX3_shaBlock_310 ?_
                    refine lv_bipush (v := 8) hx hb dX3_shaBlock_311 (by decide) ?_
                    refine xk_iremN hx hb (((80 - t) % 8) + 1) 8 ((((80 - t) % 8) + 1) % 8) rfl rfl (by omega) (by decide) (by decide) (by omega) dX3_shaBlock_313 ?_
                    refine xk_lald hx hb hK hP 5 1 rfl rfl ((((80 - t) % 8) + 1) % 8) rfl (by omega) (by decide) dX3_shaBlock_314 ?_
                    refine lv_lstore (lv' := [(11, .long (L2 ((((80 - t) % 8) + 1) % 8))), (9, .long (((((L2 ((((80 - t) % 8) + 7) % 8)) + (((mo_right (L2 ((((80 - t) % 8) + 4) % 8)) 14) ^^^ (mo_right (L2 ((((80 - t) % 8) + 4) % 8)) 18)) ^^^ (mo_right (L2 ((((80 - t) % 8) + 4) % 8)) 41))) + (((L2 ((((80 - t) % 8) + 4) % 8)) &&& (L2 ((((80 - t) % 8) + 5) % 8))) ^^^ (((L2 ((((80 - t) % 8) + 4) % 8)) ^^^ (-1)) &&& (L2 ((((80 - t) % 8) + 6) % 8))))) + (cu t)) + (L3 t))), (7, .long (L2 ((((80 - t) % 8) + 6) % 8))), (5, .long (L2 ((((80 - t) % 8) + 5) % 8))), (3, .long (L2 ((((80 - t) % 8) + 4) % 8))), (2, .int (nI ((80 - t) % 8))), (0, .ref m0), (1, .int (nI t))]) hx hb dX3_shaBlock_315 hl (by decide) rfl (fun ls hl => ?_)
                    refine lv_aload_n hx hb dX3_shaBlock_317 rfl (lv_at hl 6 rfl) ?_
                    refine va_get (D := D) (ci := 3) (v := .ref m7) (C := RX3) (T := TX3) (N := 17) hx hb hts hi_3 hown hK hP 0 rfl rfl 13 (by decide) fl_29 (fun _ h9 => h9) rfl dX3_shaBlock_318 ?_
                    refine lv_iload_n hx hb dX3_shaBlock_321 rfl (lv_at hl 5 rfl) ?_
                    refine lv_iconst (v := 2) hx hb dX3_shaBlock_322 (by decide) ?_
                    refine xk_iaddN hx hb ((80 - t) % 8) 2 (((80 - t) % 8) + 2) rfl rfl (by omega) dX3_shaBlock_323 ?_
                    refine lv_bipush (v := 8) hx hb dX3_shaBlock_324 (by decide) ?_
                    refine xk_iremN hx hb (((80 - t) % 8) + 2) 8 ((((80 - t) % 8) + 2) % 8) rfl rfl (by omega) (by decide) (by decide) (by omega) dX3_shaBlock_326 ?_
                    refine xk_lald hx hb hK hP 5 1 rfl rfl ((((80 - t) % 8) + 2) % 8) rfl (by omega) (by decide) dX3_shaBlock_327 ?_
                    refine lv_lstore (lv' := [(13, .long (L2 ((((80 - t) % 8) + 2) % 8))), (11, .long (L2 ((((80 - t) % 8) + 1) % 8))), (9, .long (((((L2 ((((80 - t) % 8) + 7) % 8)) + (((mo_right (L2 ((((80 - t) % 8) + 4) % 8)) 14) ^^^ (mo_right (L2 ((((80 - t) % 8) + 4) % 8)) 18)) ^^^ (mo_right (L2 ((((80 - t) % 8) + 4) % 8)) 41))) + (((L2 ((((80 - t) % 8) + 4) % 8)) &&& (L2 ((((80 - t) % 8) + 5) % 8))) ^^^ (((L2 ((((80 - t) % 8) + 4) % 8)) ^^^ (-1)) &&& (L2 ((((80 - t) % 8) + 6) % 8))))) + (cu t)) + (L3 t))), (7, .long (L2 ((((80 - t) % 8) + 6) % 8))), (5, .long (L2 ((((80 - t) % 8) + 5) % 8))), (3, .long (L2 ((((80 - t) % 8) + 4) % 8))), (2, .int (nI ((80 - t) % 8))), (0, .ref m0), (1, .int (nI t))]) hx hb dX3_shaBlock_328 hl (by decide) rfl (fun ls hl => ?_)
                    refine lv_aload_n hx hb dX3_shaBlock_330 rfl (lv_at hl 7 rfl) ?_
                    refine va_get (D := D) (ci := 3) (v := .ref m7) (C := RX3) (T := TX3) (N := 17) hx hb hts hi_3 hown hK hP 0 rfl rfl 13 (by decide) fl_29 (fun _ h9 => h9) rfl dX3_shaBlock_331 ?_
                    refine lv_iload_n hx hb dX3_shaBlock_334 rfl (lv_at hl 6 rfl) ?_
                    refine xk_lald hx hb hK hP 5 1 rfl rfl ((80 - t) % 8) rfl (by omega) (by decide) dX3_shaBlock_335 ?_
                    refine lv_bipush (v := 28) hx hb dX3_shaBlock_336 (by decide) ?_
                    refine xk_goPL (r := (mo_right (L2 ((80 - t) % 8)) 28)) (va_runS (As := [.long (L2 ((80 - t) % 8)), .int 28]) (rest := []) ⟨hx, hb, hml, hown, hts⟩ (c_X3_right l D (L2 ((80 - t) % 8)) 28) (va_cwS 2 hts gX3_shaBlock_X3_right rfl rfl rfl (by decide +kernel) ⟨Nat.le_of_ble_eq_true rfl, Nat.le_of_ble_eq_true rfl⟩) preEq rfl rfl hl.1 rfl (lv_room (Nat.le_of_ble_eq_true rfl)) dX3_shaBlock_338 ⟨Nat.le_of_ble_eq_true rfl, Nat.le_of_ble_eq_true rfl⟩) hP hS (fun H locs hP hS => ?_)
                    refine lv_aload_n hx hb dX3_shaBlock_341 rfl (lv_at hl 7 rfl) ?_
                    refine va_get (D := D) (ci := 3) (v := .ref m7) (C := RX3) (T := TX3) (N := 17) hx hb hts hi_3 hown hK hP 0 rfl rfl 13 (by decide) fl_29 (fun _ h9 => h9) rfl dX3_shaBlock_342 ?_
                    refine lv_iload_n hx hb dX3_shaBlock_345 rfl (lv_at hl 6 rfl) ?_
                    refine xk_lald hx hb hK hP 5 1 rfl rfl ((80 - t) % 8) rfl (by omega) (by decide) dX3_shaBlock_346 ?_
                    refine lv_bipush (v := 34) hx hb dX3_shaBlock_347 (by decide) ?_
                    refine xk_goPL (r := (mo_right (L2 ((80 - t) % 8)) 34)) (va_runS (As := [.long (L2 ((80 - t) % 8)), .int 34]) (rest := [.long (mo_right (L2 ((80 - t) % 8)) 28)]) ⟨hx, hb, hml, hown, hts⟩ (c_X3_right l D (L2 ((80 - t) % 8)) 34) (va_cwS 2 hts gX3_shaBlock_X3_right rfl rfl rfl (by decide +kernel) ⟨Nat.le_of_ble_eq_true rfl, Nat.le_of_ble_eq_true rfl⟩) preEq rfl rfl hl.1 rfl (lv_room (Nat.le_of_ble_eq_true rfl)) dX3_shaBlock_349 ⟨Nat.le_of_ble_eq_true rfl, Nat.le_of_ble_eq_true rfl⟩) hP hS (fun H locs hP hS => ?_)
                    refine lv_lxor hx hb dX3_shaBlock_352 ?_
                    refine lv_aload_n hx hb dX3_shaBlock_353 rfl (lv_at hl 7 rfl) ?_
                    refine va_get (D := D) (ci := 3) (v := .ref m7) (C := RX3) (T := TX3) (N := 17) hx hb hts hi_3 hown hK hP 0 rfl rfl 13 (by decide) fl_29 (fun _ h9 => h9) rfl dX3_shaBlock_354 ?_
                    refine lv_iload_n hx hb dX3_shaBlock_357 rfl (lv_at hl 6 rfl) ?_
                    refine xk_lald hx hb hK hP 5 1 rfl rfl ((80 - t) % 8) rfl (by omega) (by decide) dX3_shaBlock_358 ?_
                    refine lv_bipush (v := 39) hx hb dX3_shaBlock_359 (by decide) ?_
                    refine xk_goPL (r := (mo_right (L2 ((80 - t) % 8)) 39)) (va_runS (As := [.long (L2 ((80 - t) % 8)), .int 39]) (rest := [.long ((mo_right (L2 ((80 - t) % 8)) 28) ^^^ (mo_right (L2 ((80 - t) % 8)) 34))]) ⟨hx, hb, hml, hown, hts⟩ (c_X3_right l D (L2 ((80 - t) % 8)) 39) (va_cwS 2 hts gX3_shaBlock_X3_right rfl rfl rfl (by decide +kernel) ⟨Nat.le_of_ble_eq_true rfl, Nat.le_of_ble_eq_true rfl⟩) preEq rfl rfl hl.1 rfl (lv_room (Nat.le_of_ble_eq_true rfl)) dX3_shaBlock_361 ⟨Nat.le_of_ble_eq_true rfl, Nat.le_of_ble_eq_true rfl⟩) hP hS (fun H locs hP hS => ?_)
                    refine lv_lxor hx hb dX3_shaBlock_364 ?_
                    refine lv_aload_n hx hb dX3_shaBlock_365 rfl (lv_at hl 7 rfl) ?_
                    refine va_get (D := D) (ci := 3) (v := .ref m7) (C := RX3) (T := TX3) (N := 17) hx hb hts hi_3 hown hK hP 0 rfl rfl 13 (by decide) fl_29 (fun _ h9 => h9) rfl dX3_shaBlock_366 ?_
                    refine lv_iload_n hx hb dX3_shaBlock_369 rfl (lv_at hl 6 rfl) ?_
                    refine xk_lald hx hb hK hP 5 1 rfl rfl ((80 - t) % 8) rfl (by omega) (by decide) dX3_shaBlock_370 ?_
                    refine lv_lload hx hb dX3_shaBlock_371 (lv_at hl 1 rfl) ?_
                    refine lv_land hx hb dX3_shaBlock_373 ?_
                    refine lv_aload_n hx hb dX3_shaBlock_374 rfl (lv_at hl 7 rfl) ?_
                    refine va_get (D := D) (ci := 3) (v := .ref m7) (C := RX3) (T := TX3) (N := 17) hx hb hts hi_3 hown hK hP 0 rfl rfl 13 (by decide) fl_29 (fun _ h9 => h9) rfl dX3_shaBlock_375 ?_
                    refine lv_iload_n hx hb dX3_shaBlock_378 rfl (lv_at hl 6 rfl) ?_
                    refine xk_lald hx hb hK hP 5 1 rfl rfl ((80 - t) % 8) rfl (by omega) (by decide) dX3_shaBlock_379 ?_
                    refine lv_lload hx hb dX3_shaBlock_380 (lv_at hl 0 rfl) ?_
                    refine lv_land hx hb dX3_shaBlock_382 ?_
                    refine lv_lor hx hb dX3_shaBlock_383 ?_
                    refine lv_lload hx hb dX3_shaBlock_384 (lv_at hl 1 rfl) ?_
                    refine lv_lload hx hb dX3_shaBlock_386 (lv_at hl 0 rfl) ?_
                    refine lv_land hx hb dX3_shaBlock_388 ?_
                    refine lv_lor hx hb dX3_shaBlock_389 ?_
                    refine lv_ladd hx hb dX3_shaBlock_390 ?_
                    refine lv_lstore (lv' := [(15, .long ((((mo_right (L2 ((80 - t) % 8)) 28) ^^^ (mo_right (L2 ((80 - t) % 8)) 34)) ^^^ (mo_right (L2 ((80 - t) % 8)) 39)) + ((((L2 ((80 - t) % 8)) &&& (L2 ((((80 - t) % 8) + 1) % 8))) ||| ((L2 ((80 - t) % 8)) &&& (L2 ((((80 - t) % 8) + 2) % 8)))) ||| ((L2 ((((80 - t) % 8) + 1) % 8)) &&& (L2 ((((80 - t) % 8) + 2) % 8)))))), (13, .long (L2 ((((80 - t) % 8) + 2) % 8))), (11, .long (L2 ((((80 - t) % 8) + 1) % 8))), (9, .long (((((L2 ((((80 - t) % 8) + 7) % 8)) + (((mo_right (L2 ((((80 - t) % 8) + 4) % 8)) 14) ^^^ (mo_right (L2 ((((80 - t) % 8) + 4) % 8)) 18)) ^^^ (mo_right (L2 ((((80 - t) % 8) + 4) % 8)) 41))) + (((L2 ((((80 - t) % 8) + 4) % 8)) &&& (L2 ((((80 - t) % 8) + 5) % 8))) ^^^ (((L2 ((((80 - t) % 8) + 4) % 8)) ^^^ (-1)) &&& (L2 ((((80 - t) % 8) + 6) % 8))))) + (cu t)) + (L3 t))), (7, .long (L2 ((((80 - t) % 8) + 6) % 8))), (5, .long (L2 ((((80 - t) % 8) + 5) % 8))), (3, .long (L2 ((((80 - t) % 8) + 4) % 8))), (2, .int (nI ((80 - t) % 8))), (0, .ref m0), (1, .int (nI t))]) hx hb dX3_shaBlock_391 hl (by decide) rfl (fun ls hl => ?_)
                    refine lv_aload_n hx hb dX3_shaBlock_393 rfl (lv_at hl 8 rfl) ?_
                    refine va_get (D := D) (ci := 3) (v := .ref m7) (C := RX3) (T := TX3) (N := 17) hx hb hts hi_3 hown hK hP 0 rfl rfl 13 (by decide) fl_29 (fun _ h9 => h9) rfl dX3_shaBlock_394 ?_
                    refine lv_iload_n hx hb dX3_shaBlock_397 rfl (lv_at hl 7 rfl) ?_
                    refine lv_iconst (v := 3) hx hb dX3_shaBlock_398 (by decide) ?_
                    refine xk_iaddN hx hb ((80 - t) % 8) 3 (((80 - t) % 8) + 3) rfl rfl (by omega) dX3_shaBlock_399 ?_
                    refine lv_bipush (v := 8) hx hb dX3_shaBlock_400 (by decide) ?_
                    refine xk_iremN hx hb (((80 - t) % 8) + 3) 8 ((((80 - t) % 8) + 3) % 8) rfl rfl (by omega) (by decide) (by decide) (by omega) dX3_shaBlock_402 ?_
                    refine lv_dup2_11 hx hb dX3_shaBlock_403 rfl rfl ?_
                    refine xk_lald hx hb hK hP 5 1 rfl rfl ((((80 - t) % 8) + 3) % 8) rfl (by omega) (by decide) dX3_shaBlock_404 ?_
                    refine lv_lload hx hb dX3_shaBlock_405 (lv_at hl 3 rfl) ?_
                    refine lv_ladd hx hb dX3_shaBlock_407 ?_
                    refine xk_last hx hb hK hP hD hS 5 1 rfl rfl ((((80 - t) % 8) + 3) % 8) rfl (by omega) (by decide) dX3_shaBlock_408 (fun H locs hP hD hS => ?_)
                    have hP : va_P D classes [(m0, .inr (3, [.int rd, .int md, .int cd, .int ln, .ref m1, .long pp, .long qq, .ref m2, .int hd, .ref m3, .ref m4, .ref m5, .ref m6, .ref m7, .ref m8, .ref m9, .ref m10])), (m2, .inl (cI, 128, .inl rs)), (m3, .inl (cL, 8, .inr (.inl st))), (m4, .inl (cL, 80, .inr (.inl cu))), (m6, .inl (cL, 80, .inr (.inl L3))), (m7, .inl (cL, 8, .inr (.inl (vp_updL L2 ((((80 - t) % 8) + 3) % 8) ((L2 ((((80 - t) % 8) + 3) % 8)) + (((((L2 ((((80 - t) % 8) + 7) % 8)) + (((mo_right (L2 ((((80 - t) % 8) + 4) % 8)) 14) ^^^ (mo_right (L2 ((((80 - t) % 8) + 4) % 8)) 18)) ^^^ (mo_right (L2 ((((80 - t) % 8) + 4) % 8)) 41))) + (((L2 ((((80 - t) % 8) + 4) % 8)) &&& (L2 ((((80 - t) % 8) + 5) % 8))) ^^^ (((L2 ((((80 - t) % 8) + 4) % 8)) ^^^ (-1)) &&& (L2 ((((80 - t) % 8) + 6) % 8))))) + (cu t)) + (L3 t)))))))] H := hP
                    have hD : va_D A [(m0, .inr (3, [.int rd, .int md, .int cd, .int ln, .ref m1, .long pp, .long qq, .ref m2, .int hd, .ref m3, .ref m4, .ref m5, .ref m6, .ref m7, .ref m8, .ref m9, .ref m10])), (m2, .inl (cI, 128, .inl rs)), (m3, .inl (cL, 8, .inr (.inl st))), (m4, .inl (cL, 80, .inr (.inl cu))), (m6, .inl (cL, 80, .inr (.inl L3))), (m7, .inl (cL, 8, .inr (.inl (vp_updL L2 ((((80 - t) % 8) + 3) % 8) ((L2 ((((80 - t) % 8) + 3) % 8)) + (((((L2 ((((80 - t) % 8) + 7) % 8)) + (((mo_right (L2 ((((80 - t) % 8) + 4) % 8)) 14) ^^^ (mo_right (L2 ((((80 - t) % 8) + 4) % 8)) 18)) ^^^ (mo_right (L2 ((((80 - t) % 8) + 4) % 8)) 41))) + (((L2 ((((80 - t) % 8) + 4) % 8)) &&& (L2 ((((80 - t) % 8) + 5) % 8))) ^^^ (((L2 ((((80 - t) % 8) + 4) % 8)) ^^^ (-1)) &&& (L2 ((((80 - t) % 8) + 6) % 8))))) + (cu t)) + (L3 t)))))))] := hD
                    generalize eL4 : vp_updL L2 ((((80 - t) % 8) + 3) % 8) ((L2 ((((80 - t) % 8) + 3) % 8)) + (((((L2 ((((80 - t) % 8) + 7) % 8)) + (((mo_right (L2 ((((80 - t) % 8) + 4) % 8)) 14) ^^^ (mo_right (L2 ((((80 - t) % 8) + 4) % 8)) 18)) ^^^ (mo_right (L2 ((((80 - t) % 8) + 4) % 8)) 41))) + (((L2 ((((80 - t) % 8) + 4) % 8)) &&& (L2 ((((80 - t) % 8) + 5) % 8))) ^^^ (((L2 ((((80 - t) % 8) + 4) % 8)) ^^^ (-1)) &&& (L2 ((((80 - t) % 8) + 6) % 8))))) + (cu t)) + (L3 t))) = L4 at hP hD
                    refine lv_aload_n hx hb dX3_shaBlock_409 rfl (lv_at hl 8 rfl) ?_
                    refine va_get (D := D) (ci := 3) (v := .ref m7) (C := RX3) (T := TX3) (N := 17) hx hb hts hi_3 hown hK hP 0 rfl rfl 13 (by decide) fl_29 (fun _ h9 => h9) rfl dX3_shaBlock_410 ?_
                    refine lv_iload_n hx hb dX3_shaBlock_413 rfl (lv_at hl 7 rfl) ?_
                    refine lv_bipush (v := 7) hx hb dX3_shaBlock_414 (by decide) ?_
                    refine xk_iaddN hx hb ((80 - t) % 8) 7 (((80 - t) % 8) + 7) rfl rfl (by omega) dX3_shaBlock_416 ?_
                    refine lv_bipush (v := 8) hx hb dX3_shaBlock_417 (by decide) ?_
                    refine xk_iremN hx hb (((80 - t) % 8) + 7) 8 ((((80 - t) % 8) + 7) % 8) rfl rfl (by omega) (by decide) (by decide) (by omega) dX3_shaBlock_419 ?_
                    refine lv_lload hx hb dX3_shaBlock_420 (lv_at hl 3 rfl) ?_
                    refine lv_lload hx hb dX3_shaBlock_422 (lv_at hl 0 rfl) ?_
                    refine lv_ladd hx hb dX3_shaBlock_424 ?_
                    refine xk_last hx hb hK hP hD hS 5 1 rfl rfl ((((80 - t) % 8) + 7) % 8) rfl (by omega) (by decide) dX3_shaBlock_425 (fun H locs hP hD hS => ?_)
                    have hP : va_P D classes [(m0, .inr (3, [.int rd, .int md, .int cd, .int ln, .ref m1, .long pp, .long qq, .ref m2, .int hd, .ref m3, .ref m4, .ref m5, .ref m6, .ref m7, .ref m8, .ref m9, .ref m10])), (m2, .inl (cI, 128, .inl rs)), (m3, .inl (cL, 8, .inr (.inl st))), (m4, .inl (cL, 80, .inr (.inl cu))), (m6, .inl (cL, 80, .inr (.inl L3))), (m7, .inl (cL, 8, .inr (.inl (vp_updL L4 ((((80 - t) % 8) + 7) % 8) ((((((L2 ((((80 - t) % 8) + 7) % 8)) + (((mo_right (L2 ((((80 - t) % 8) + 4) % 8)) 14) ^^^ (mo_right (L2 ((((80 - t) % 8) + 4) % 8)) 18)) ^^^ (mo_right (L2 ((((80 - t) % 8) + 4) % 8)) 41))) + (((L2 ((((80 - t) % 8) + 4) % 8)) &&& (L2 ((((80 - t) % 8) + 5) % 8))) ^^^ (((L2 ((((80 - t) % 8) + 4) % 8)) ^^^ (-1)) &&& (L2 ((((80 - t) % 8) + 6) % 8))))) + (cu t)) + (L3 t)) + ((((mo_right (L2 ((80 - t) % 8)) 28) ^^^ (mo_right (L2 ((80 - t) % 8)) 34)) ^^^ (mo_right (L2 ((80 - t) % 8)) 39)) + ((((L2 ((80 - t) % 8)) &&& (L2 ((((80 - t) % 8) + 1) % 8))) ||| ((L2 ((80 - t) % 8)) &&& (L2 ((((80 - t) % 8) + 2) % 8)))) ||| ((L2 ((((80 - t) % 8) + 1) % 8)) &&& (L2 ((((80 - t) % 8) + 2) % 8))))))))))] H := hP
                    have hD : va_D A [(m0, .inr (3, [.int rd, .int md, .int cd, .int ln, .ref m1, .long pp, .long qq, .ref m2, .int hd, .ref m3, .ref m4, .ref m5, .ref m6, .ref m7, .ref m8, .ref m9, .ref m10])), (m2, .inl (cI, 128, .inl rs)), (m3, .inl (cL, 8, .inr (.inl st))), (m4, .inl (cL, 80, .inr (.inl cu))), (m6, .inl (cL, 80, .inr (.inl L3))), (m7, .inl (cL, 8, .inr (.inl (vp_updL L4 ((((80 - t) % 8) + 7) % 8) ((((((L2 ((((80 - t) % 8) + 7) % 8)) + (((mo_right (L2 ((((80 - t) % 8) + 4) % 8)) 14) ^^^ (mo_right (L2 ((((80 - t) % 8) + 4) % 8)) 18)) ^^^ (mo_right (L2 ((((80 - t) % 8) + 4) % 8)) 41))) + (((L2 ((((80 - t) % 8) + 4) % 8)) &&& (L2 ((((80 - t) % 8) + 5) % 8))) ^^^ (((L2 ((((80 - t) % 8) + 4) % 8)) ^^^ (-1)) &&& (L2 ((((80 - t) % 8) + 6) % 8))))) + (cu t)) + (L3 t)) + ((((mo_right (L2 ((80 - t) % 8)) 28) ^^^ (mo_right (L2 ((80 - t) % 8)) 34)) ^^^ (mo_right (L2 ((80 - t) % 8)) 39)) + ((((L2 ((80 - t) % 8)) &&& (L2 ((((80 - t) % 8) + 1) % 8))) ||| ((L2 ((80 - t) % 8)) &&& (L2 ((((80 - t) % 8) + 2) % 8)))) ||| ((L2 ((((80 - t) % 8) + 1) % 8)) &&& (L2 ((((80 - t) % 8) + 2) % 8))))))))))] := hD
                    generalize eL5 : vp_updL L4 ((((80 - t) % 8) + 7) % 8) ((((((L2 ((((80 - t) % 8) + 7) % 8)) + (((mo_right (L2 ((((80 - t) % 8) + 4) % 8)) 14) ^^^ (mo_right (L2 ((((80 - t) % 8) + 4) % 8)) 18)) ^^^ (mo_right (L2 ((((80 - t) % 8) + 4) % 8)) 41))) + (((L2 ((((80 - t) % 8) + 4) % 8)) &&& (L2 ((((80 - t) % 8) + 5) % 8))) ^^^ (((L2 ((((80 - t) % 8) + 4) % 8)) ^^^ (-1)) &&& (L2 ((((80 - t) % 8) + 6) % 8))))) + (cu t)) + (L3 t)) + ((((mo_right (L2 ((80 - t) % 8)) 28) ^^^ (mo_right (L2 ((80 - t) % 8)) 34)) ^^^ (mo_right (L2 ((80 - t) % 8)) 39)) + ((((L2 ((80 - t) % 8)) &&& (L2 ((((80 - t) % 8) + 1) % 8))) ||| ((L2 ((80 - t) % 8)) &&& (L2 ((((80 - t) % 8) + 2) % 8)))) ||| ((L2 ((((80 - t) % 8) + 1) % 8)) &&& (L2 ((((80 - t) % 8) + 2) % 8)))))) = L5 at hP hD
                    refine lv_iinc (v := nI (t + 1)) (lv' := [(1, .int (nI (t + 1))), (15, .long ((((mo_right (L2 ((80 - t) % 8)) 28) ^^^ (mo_right (L2 ((80 - t) % 8)) 34)) ^^^ (mo_right (L2 ((80 - t) % 8)) 39)) + ((((L2 ((80 - t) % 8)) &&& (L2 ((((80 - t) % 8) + 1) % 8))) ||| ((L2 ((80 - t) % 8)) &&& (L2 ((((80 - t) % 8) + 2) % 8)))) ||| ((L2 ((((80 - t) % 8) + 1) % 8)) &&& (L2 ((((80 - t) % 8) + 2) % 8)))))), (13, .long (L2 ((((80 - t) % 8) + 2) % 8))), (11, .long (L2 ((((80 - t) % 8) + 1) % 8))), (9, .long (((((L2 ((((80 - t) % 8) + 7) % 8)) + (((mo_right (L2 ((((80 - t) % 8) + 4) % 8)) 14) ^^^ (mo_right (L2 ((((80 - t) % 8) + 4) % 8)) 18)) ^^^ (mo_right (L2 ((((80 - t) % 8) + 4) % 8)) 41))) + (((L2 ((((80 - t) % 8) + 4) % 8)) &&& (L2 ((((80 - t) % 8) + 5) % 8))) ^^^ (((L2 ((((80 - t) % 8) + 4) % 8)) ^^^ (-1)) &&& (L2 ((((80 - t) % 8) + 6) % 8))))) + (cu t)) + (L3 t))), (7, .long (L2 ((((80 - t) % 8) + 6) % 8))), (5, .long (L2 ((((80 - t) % 8) + 5) % 8))), (3, .long (L2 ((((80 - t) % 8) + 4) % 8))), (2, .int (nI ((80 - t) % 8))), (0, .ref m0)]) hx hb dX3_shaBlock_426 hl (k := 9) rfl (xk_i1 (by omega)) (by decide) rfl (fun ls hl => ?_)
                    refine lv_goto (tgt := 188) hx hb dX3_shaBlock_429 (by decide) ?_
                    subst eL2
                    subst eL3
                    subst eL4
                    subst eL5
                    exact ihloopC (t + 1) (by omega) _ _ _ hP hD hS (lv_sub hl [9, 0] rfl)
              exact loopC 80 0 rfl _ _ _ hP hD hS (lv_sub hl [1, 0] rfl)
            · exact absurd (nI_le (a := 8) (b := 8) (by omega) (by omega)) c
          | succ d ihloopB =>
            intro k hk H locs ls hP hD hS hl
            refine lv_iload_n hx hb dX3_shaBlock_162 rfl (lv_at hl 1 rfl) ?_
            refine lv_bipush (v := 8) hx hb dX3_shaBlock_163 (by decide) ?_
            refine lv_icmp_ge (tgt := 186) hx hb dX3_shaBlock_165 (by decide) (fun c => ?_) (fun c => ?_)
            · exact absurd c (nI_ge (a := k) (b := 8) (by omega) (by omega))
            · refine lv_aload_n hx hb dX3_shaBlock_168 rfl (lv_at hl 0 rfl) ?_
              refine va_get (D := D) (ci := 3) (v := .ref m7) (C := RX3) (T := TX3) (N := 17) hx hb hts hi_3 hown hK hP 0 rfl rfl 13 (by decide) fl_29 (fun _ h9 => h9) rfl dX3_shaBlock_169 ?_
              refine lv_iload_n hx hb dX3_shaBlock_172 rfl (lv_at hl 1 rfl) ?_
              refine lv_aload_n hx hb dX3_shaBlock_173 rfl (lv_at hl 0 rfl) ?_
              refine va_get (D := D) (ci := 3) (v := .ref m3) (C := RX3) (T := TX3) (N := 17) hx hb hts hi_3 hown hK hP 0 rfl rfl 9 (by decide) fl_16 (fun _ h9 => h9) rfl dX3_shaBlock_174 ?_
              refine lv_iload_n hx hb dX3_shaBlock_177 rfl (lv_at hl 1 rfl) ?_
              refine xk_lald hx hb hK hP 2 1 rfl rfl k rfl (by omega) (by decide) dX3_shaBlock_178 ?_
              refine xk_last hx hb hK hP hD hS 5 1 rfl rfl k rfl (by omega) (by decide) dX3_shaBlock_179 (fun H locs hP hD hS => ?_)
              have hP : va_P D classes [(m0, .inr (3, [.int rd, .int md, .int cd, .int ln, .ref m1, .long pp, .long qq, .ref m2, .int hd, .ref m3, .ref m4, .ref m5, .ref m6, .ref m7, .ref m8, .ref m9, .ref m10])), (m2, .inl (cI, 128, .inl rs)), (m3, .inl (cL, 8, .inr (.inl st))), (m4, .inl (cL, 80, .inr (.inl cu))), (m6, .inl (cL, 80, .inr (.inl (mo_bW ww rs)))), (m7, .inl (cL, 8, .inr (.inl (vp_updL (mo_cp rr st k) k (st k)))))] H := hP
              have hD : va_D A [(m0, .inr (3, [.int rd, .int md, .int cd, .int ln, .ref m1, .long pp, .long qq, .ref m2, .int hd, .ref m3, .ref m4, .ref m5, .ref m6, .ref m7, .ref m8, .ref m9, .ref m10])), (m2, .inl (cI, 128, .inl rs)), (m3, .inl (cL, 8, .inr (.inl st))), (m4, .inl (cL, 80, .inr (.inl cu))), (m6, .inl (cL, 80, .inr (.inl (mo_bW ww rs)))), (m7, .inl (cL, 8, .inr (.inl (vp_updL (mo_cp rr st k) k (st k)))))] := hD
              generalize eL6 : vp_updL (mo_cp rr st k) k (st k) = L6 at hP hD
              refine lv_iinc (v := nI (k + 1)) (lv' := [(1, .int (nI (k + 1))), (0, .ref m0)]) hx hb dX3_shaBlock_180 hl (k := 1) rfl (xk_i1 (by omega)) (by decide) rfl (fun ls hl => ?_)
              refine lv_goto (tgt := 162) hx hb dX3_shaBlock_183 (by decide) ?_
              subst eL6
              exact ihloopB (k + 1) (by omega) _ _ _ hP hD hS (lv_sub hl [1, 0] rfl)
        exact loopB 8 0 rfl _ _ _ hP hD hS (lv_sub hl [1, 0] rfl)
      · exact absurd (nI_le (a := 80) (b := 80) (by omega) (by omega)) c
    | succ d ihloopA =>
      intro t ht H locs ls hP hD hS hl
      refine lv_iload_n hx hb dX3_shaBlock_2 rfl (lv_at hl 1 rfl) ?_
      refine lv_bipush (v := 80) hx hb dX3_shaBlock_3 (by decide) ?_
      refine lv_icmp_ge (tgt := 160) hx hb dX3_shaBlock_5 (by decide) (fun c => ?_) (fun c => ?_)
      · exact absurd c (nI_ge (a := t) (b := 80) (by omega) (by omega))
      · refine lv_iload_n hx hb dX3_shaBlock_8 rfl (lv_at hl 1 rfl) ?_
        refine lv_bipush (v := 16) hx hb dX3_shaBlock_9 (by decide) ?_
        refine lv_icmp_ge (tgt := 61) hx hb dX3_shaBlock_11 (by decide) (fun c1 => ?_) (fun c1 => ?_)
        · have c2 : ¬ t < 16 := Nat.not_lt.mpr ((nI_leI (by omega) (by omega)).mp c1)
          refine lv_aload_n hx hb dX3_shaBlock_61 rfl (lv_at hl 0 rfl) ?_
          refine va_get (D := D) (ci := 3) (v := .ref m6) (C := RX3) (T := TX3) (N := 17) hx hb hts hi_3 hown hK hP 0 rfl rfl 12 (by decide) fl_26 (fun _ h9 => h9) rfl dX3_shaBlock_62 ?_
          refine lv_iload_n hx hb dX3_shaBlock_65 rfl (lv_at hl 1 rfl) ?_
          refine lv_bipush (v := 15) hx hb dX3_shaBlock_66 (by decide) ?_
          refine xk_isubN hx hb t 15 (t - 15) rfl rfl (by omega) dX3_shaBlock_68 ?_
          refine xk_lald hx hb hK hP 4 1 rfl rfl (t - 15) rfl (by omega) (by decide) dX3_shaBlock_69 ?_
          refine lv_lstore_n (lv' := [(2, .long ((mo_ws ww rs t) (t - 15))), (0, .ref m0), (1, .int (nI t))]) hx hb dX3_shaBlock_70 rfl hl (by decide) rfl (fun ls hl => ?_)
          refine lv_aload_n hx hb dX3_shaBlock_71 rfl (lv_at hl 1 rfl) ?_
          refine va_get (D := D) (ci := 3) (v := .ref m6) (C := RX3) (T := TX3) (N := 17) hx hb hts hi_3 hown hK hP 0 rfl rfl 12 (by decide) fl_26 (fun _ h9 => h9) rfl dX3_shaBlock_72 ?_
          refine lv_iload_n hx hb dX3_shaBlock_75 rfl (lv_at hl 2 rfl) ?_
          refine lv_iconst (v := 2) hx hb dX3_shaBlock_76 (by decide) ?_
          refine xk_isubN hx hb t 2 (t - 2) rfl rfl (by omega) dX3_shaBlock_77 ?_
          refine xk_lald hx hb hK hP 4 1 rfl rfl (t - 2) rfl (by omega) (by decide) dX3_shaBlock_78 ?_
          refine lv_lstore (lv' := [(4, .long ((mo_ws ww rs t) (t - 2))), (2, .long ((mo_ws ww rs t) (t - 15))), (0, .ref m0), (1, .int (nI t))]) hx hb dX3_shaBlock_79 hl (by decide) rfl (fun ls hl => ?_)
          refine lv_lload_n hx hb dX3_shaBlock_81 rfl (lv_at hl 1 rfl) ?_
          refine lv_iconst (v := 1) hx hb dX3_shaBlock_82 (by decide) ?_
          refine xk_goPL (r := (mo_right ((mo_ws ww rs t) (t - 15)) 1)) (va_runS (As := [.long ((mo_ws ww rs t) (t - 15)), .int 1]) (rest := []) ⟨hx, hb, hml, hown, hts⟩ (c_X3_right l D ((mo_ws ww rs t) (t - 15)) 1) (va_cwS 2 hts gX3_shaBlock_X3_right rfl rfl rfl (by decide +kernel) ⟨Nat.le_of_ble_eq_true rfl, Nat.le_of_ble_eq_true rfl⟩) preEq rfl rfl hl.1 rfl (lv_room (Nat.le_of_ble_eq_true rfl)) dX3_shaBlock_83 ⟨Nat.le_of_ble_eq_true rfl, Nat.le_of_ble_eq_true rfl⟩) hP hS (fun H locs hP hS => ?_)
          refine lv_lload_n hx hb dX3_shaBlock_86 rfl (lv_at hl 1 rfl) ?_
          refine lv_bipush (v := 8) hx hb dX3_shaBlock_87 (by decide) ?_
          refine xk_goPL (r := (mo_right ((mo_ws ww rs t) (t - 15)) 8)) (va_runS (As := [.long ((mo_ws ww rs t) (t - 15)), .int 8]) (rest := [.long (mo_right ((mo_ws ww rs t) (t - 15)) 1)]) ⟨hx, hb, hml, hown, hts⟩ (c_X3_right l D ((mo_ws ww rs t) (t - 15)) 8) (va_cwS 2 hts gX3_shaBlock_X3_right rfl rfl rfl (by decide +kernel) ⟨Nat.le_of_ble_eq_true rfl, Nat.le_of_ble_eq_true rfl⟩) preEq rfl rfl hl.1 rfl (lv_room (Nat.le_of_ble_eq_true rfl)) dX3_shaBlock_89 ⟨Nat.le_of_ble_eq_true rfl, Nat.le_of_ble_eq_true rfl⟩) hP hS (fun H locs hP hS => ?_)
          refine lv_lxor hx hb dX3_shaBlock_92 ?_
          refine lv_lload_n hx hb dX3_shaBlock_93 rfl (lv_at hl 1 rfl) ?_
          refine lv_bipush (v := 7) hx hb dX3_shaBlock_94 (by decide) ?_
          refine lv_lushr (v := (xm_u ((mo_ws ww rs t) (t - 15)) 7)) hx hb dX3_shaBlock_96 rfl ?_
          refine lv_lxor hx hb dX3_shaBlock_97 ?_
          refine lv_lstore (lv' := [(6, .long (((mo_right ((mo_ws ww rs t) (t - 15)) 1) ^^^ (mo_right ((mo_ws ww rs t) (t - 15)) 8)) ^^^ (xm_u ((mo_ws ww rs t) (t - 15)) 7))), (4, .long ((mo_ws ww rs t) (t - 2))), (2, .long ((mo_ws ww rs t) (t - 15))), (0, .ref m0), (1, .int (nI t))]) hx hb dX3_shaBlock_98 hl (by decide) rfl (fun ls hl => ?_)
          refine lv_lload hx hb dX3_shaBlock_100 (lv_at hl 1 rfl) ?_
          refine lv_bipush (v := 19) hx hb dX3_shaBlock_102 (by decide) ?_
          refine xk_goPL (r := (mo_right ((mo_ws ww rs t) (t - 2)) 19)) (va_runS (As := [.long ((mo_ws ww rs t) (t - 2)), .int 19]) (rest := []) ⟨hx, hb, hml, hown, hts⟩ (c_X3_right l D ((mo_ws ww rs t) (t - 2)) 19) (va_cwS 2 hts gX3_shaBlock_X3_right rfl rfl rfl (by decide +kernel) ⟨Nat.le_of_ble_eq_true rfl, Nat.le_of_ble_eq_true rfl⟩) preEq rfl rfl hl.1 rfl (lv_room (Nat.le_of_ble_eq_true rfl)) dX3_shaBlock_104 ⟨Nat.le_of_ble_eq_true rfl, Nat.le_of_ble_eq_true rfl⟩) hP hS (fun H locs hP hS => ?_)
          refine lv_lload hx hb dX3_shaBlock_107 (lv_at hl 1 rfl) ?_
          refine lv_bipush (v := 61) hx hb dX3_shaBlock_109 (by decide) ?_
          refine xk_goPL (r := (mo_right ((mo_ws ww rs t) (t - 2)) 61)) (va_runS (As := [.long ((mo_ws ww rs t) (t - 2)), .int 61]) (rest := [.long (mo_right ((mo_ws ww rs t) (t - 2)) 19)]) ⟨hx, hb, hml, hown, hts⟩ (c_X3_right l D ((mo_ws ww rs t) (t - 2)) 61) (va_cwS 2 hts gX3_shaBlock_X3_right rfl rfl rfl (by decide +kernel) ⟨Nat.le_of_ble_eq_true rfl, Nat.le_of_ble_eq_true rfl⟩) preEq rfl rfl hl.1 rfl (lv_room (Nat.le_of_ble_eq_true rfl)) dX3_shaBlock_111 ⟨Nat.le_of_ble_eq_true rfl, Nat.le_of_ble_eq_true rfl⟩) hP hS (fun H locs hP hS => ?_)
          refine lv_lxor hx hb dX3_shaBlock_114 ?_
          refine lv_lload hx hb dX3_shaBlock_115 (lv_at hl 1 rfl) ?_
          refine lv_bipush (v := 6) hx hb dX3_shaBlock_117 (by decide) ?_
          refine lv_lushr (v := (xm_u ((mo_ws ww rs t) (t - 2)) 6)) hx hb dX3_shaBlock_119 rfl ?_
          refine lv_lxor hx hb dX3_shaBlock_120 ?_
          refine lv_lstore (lv' := [(8, .long (((mo_right ((mo_ws ww rs t) (t - 2)) 19) ^^^ (mo_right ((mo_ws ww rs t) (t - 2)) 61)) ^^^ (xm_u ((mo_ws ww rs t) (t - 2)) 6))), (6, .long (((mo_right ((mo_ws ww rs t) (t - 15)) 1) ^^^ (mo_right ((mo_ws ww rs t) (t - 15)) 8)) ^^^ (xm_u ((mo_ws ww rs t) (t - 15)) 7))), (4, .long ((mo_ws ww rs t) (t - 2))), (2, .long ((mo_ws ww rs t) (t - 15))), (0, .ref m0), (1, .int (nI t))]) hx hb dX3_shaBlock_121 hl (by decide) rfl (fun ls hl => ?_)
          refine lv_aload_n hx hb dX3_shaBlock_123 rfl (lv_at hl 4 rfl) ?_
          refine va_get (D := D) (ci := 3) (v := .ref m6) (C := RX3) (T := TX3) (N := 17) hx hb hts hi_3 hown hK hP 0 rfl rfl 12 (by decide) fl_26 (fun _ h9 => h9) rfl dX3_shaBlock_124 ?_
          refine lv_iload_n hx hb dX3_shaBlock_127 rfl (lv_at hl 5 rfl) ?_
          refine lv_aload_n hx hb dX3_shaBlock_128 rfl (lv_at hl 4 rfl) ?_
          refine va_get (D := D) (ci := 3) (v := .ref m6) (C := RX3) (T := TX3) (N := 17) hx hb hts hi_3 hown hK hP 0 rfl rfl 12 (by decide) fl_26 (fun _ h9 => h9) rfl dX3_shaBlock_129 ?_
          refine lv_iload_n hx hb dX3_shaBlock_132 rfl (lv_at hl 5 rfl) ?_
          refine lv_bipush (v := 16) hx hb dX3_shaBlock_133 (by decide) ?_
          refine xk_isubN hx hb t 16 (t - 16) rfl rfl (by omega) dX3_shaBlock_135 ?_
          refine xk_lald hx hb hK hP 4 1 rfl rfl (t - 16) rfl (by omega) (by decide) dX3_shaBlock_136 ?_
          refine lv_lload hx hb dX3_shaBlock_137 (lv_at hl 1 rfl) ?_
          refine lv_ladd hx hb dX3_shaBlock_139 ?_
          refine lv_aload_n hx hb dX3_shaBlock_140 rfl (lv_at hl 4 rfl) ?_
          refine va_get (D := D) (ci := 3) (v := .ref m6) (C := RX3) (T := TX3) (N := 17) hx hb hts hi_3 hown hK hP 0 rfl rfl 12 (by decide) fl_26 (fun _ h9 => h9) rfl dX3_shaBlock_141 ?_
          refine lv_iload_n hx hb dX3_shaBlock_144 rfl (lv_at hl 5 rfl) ?_
          refine lv_bipush (v := 7) hx hb dX3_shaBlock_145 (by decide) ?_
          refine xk_isubN hx hb t 7 (t - 7) rfl rfl (by omega) dX3_shaBlock_147 ?_
          refine xk_lald hx hb hK hP 4 1 rfl rfl (t - 7) rfl (by omega) (by decide) dX3_shaBlock_148 ?_
          refine lv_ladd hx hb dX3_shaBlock_149 ?_
          refine lv_lload hx hb dX3_shaBlock_150 (lv_at hl 0 rfl) ?_
          refine lv_ladd hx hb dX3_shaBlock_152 ?_
          refine xk_last hx hb hK hP hD hS 4 1 rfl rfl t rfl (by omega) (by decide) dX3_shaBlock_153 (fun H locs hP hD hS => ?_)
          have hP : va_P D classes [(m0, .inr (3, [.int rd, .int md, .int cd, .int ln, .ref m1, .long pp, .long qq, .ref m2, .int hd, .ref m3, .ref m4, .ref m5, .ref m6, .ref m7, .ref m8, .ref m9, .ref m10])), (m2, .inl (cI, 128, .inl rs)), (m3, .inl (cL, 8, .inr (.inl st))), (m4, .inl (cL, 80, .inr (.inl cu))), (m6, .inl (cL, 80, .inr (.inl (vp_updL (mo_ws ww rs t) t (((((mo_ws ww rs t) (t - 16)) + (((mo_right ((mo_ws ww rs t) (t - 15)) 1) ^^^ (mo_right ((mo_ws ww rs t) (t - 15)) 8)) ^^^ (xm_u ((mo_ws ww rs t) (t - 15)) 7))) + ((mo_ws ww rs t) (t - 7))) + (((mo_right ((mo_ws ww rs t) (t - 2)) 19) ^^^ (mo_right ((mo_ws ww rs t) (t - 2)) 61)) ^^^ (xm_u ((mo_ws ww rs t) (t - 2)) 6))))))), (m7, .inl (cL, 8, .inr (.inl rr)))] H := hP
          have hD : va_D A [(m0, .inr (3, [.int rd, .int md, .int cd, .int ln, .ref m1, .long pp, .long qq, .ref m2, .int hd, .ref m3, .ref m4, .ref m5, .ref m6, .ref m7, .ref m8, .ref m9, .ref m10])), (m2, .inl (cI, 128, .inl rs)), (m3, .inl (cL, 8, .inr (.inl st))), (m4, .inl (cL, 80, .inr (.inl cu))), (m6, .inl (cL, 80, .inr (.inl (vp_updL (mo_ws ww rs t) t (((((mo_ws ww rs t) (t - 16)) + (((mo_right ((mo_ws ww rs t) (t - 15)) 1) ^^^ (mo_right ((mo_ws ww rs t) (t - 15)) 8)) ^^^ (xm_u ((mo_ws ww rs t) (t - 15)) 7))) + ((mo_ws ww rs t) (t - 7))) + (((mo_right ((mo_ws ww rs t) (t - 2)) 19) ^^^ (mo_right ((mo_ws ww rs t) (t - 2)) 61)) ^^^ (xm_u ((mo_ws ww rs t) (t - 2)) 6))))))), (m7, .inl (cL, 8, .inr (.inl rr)))] := hD
          generalize eL7 : vp_updL (mo_ws ww rs t) t (((((mo_ws ww rs t) (t - 16)) + (((mo_right ((mo_ws ww rs t) (t - 15)) 1) ^^^ (mo_right ((mo_ws ww rs t) (t - 15)) 8)) ^^^ (xm_u ((mo_ws ww rs t) (t - 15)) 7))) + ((mo_ws ww rs t) (t - 7))) + (((mo_right ((mo_ws ww rs t) (t - 2)) 19) ^^^ (mo_right ((mo_ws ww rs t) (t - 2)) 61)) ^^^ (xm_u ((mo_ws ww rs t) (t - 2)) 6))) = L7 at hP hD
          subst eL7
          rw [show vp_updL (mo_ws ww rs t) t _ = mo_ws ww rs (t + 1) from by show _ = vp_updL _ _ (if t < 16 then _ else _); rw [if_neg c2]; rfl] at hP hD
          refine lv_iinc (v := nI (t + 1)) (lv' := [(1, .int (nI (t + 1))), (8, .long (((mo_right ((mo_ws ww rs t) (t - 2)) 19) ^^^ (mo_right ((mo_ws ww rs t) (t - 2)) 61)) ^^^ (xm_u ((mo_ws ww rs t) (t - 2)) 6))), (6, .long (((mo_right ((mo_ws ww rs t) (t - 15)) 1) ^^^ (mo_right ((mo_ws ww rs t) (t - 15)) 8)) ^^^ (xm_u ((mo_ws ww rs t) (t - 15)) 7))), (4, .long ((mo_ws ww rs t) (t - 2))), (2, .long ((mo_ws ww rs t) (t - 15))), (0, .ref m0)]) hx hb dX3_shaBlock_154 hl (k := 5) rfl (xk_i1 (by omega)) (by decide) rfl (fun ls hl => ?_)
          refine lv_goto (tgt := 2) hx hb dX3_shaBlock_157 (by decide) ?_
          exact ihloopA (t + 1) (by omega) _ _ _ hP hD hS (lv_sub hl [5, 0] rfl)
        · have c2 : t < 16 := Nat.not_le.mp (fun h => c1 (nI_le h (by omega)))
          refine lv_lconst (v := 0) hx hb dX3_shaBlock_14 rfl ?_
          refine lv_lstore_n (lv' := [(2, .long 0), (0, .ref m0), (1, .int (nI t))]) hx hb dX3_shaBlock_15 rfl hl (by decide) rfl (fun ls hl => ?_)
          refine lv_iconst (v := 0) hx hb dX3_shaBlock_16 (by decide) ?_
          refine lv_istore (lv' := [(4, .int 0), (2, .long 0), (0, .ref m0), (1, .int (nI t))]) hx hb dX3_shaBlock_17 hl (by decide) rfl (fun ls hl => ?_)
          have loopI : ∀ (d2 : Nat) (k : Nat), (hk : k + d2 = 8) → ∀ (H : Heap) (locs : List Loc) (ls : Array Slot), va_P D classes [(m0, .inr (3, [.int rd, .int md, .int cd, .int ln, .ref m1, .long pp, .long qq, .ref m2, .int hd, .ref m3, .ref m4, .ref m5, .ref m6, .ref m7, .ref m8, .ref m9, .ref m10])), (m2, .inl (cI, 128, .inl rs)), (m3, .inl (cL, 8, .inr (.inl st))), (m4, .inl (cL, 80, .inr (.inl cu))), (m6, .inl (cL, 80, .inr (.inl (mo_ws ww rs t)))), (m7, .inl (cL, 8, .inr (.inl rr)))] H → va_D A [(m0, .inr (3, [.int rd, .int md, .int cd, .int ln, .ref m1, .long pp, .long qq, .ref m2, .int hd, .ref m3, .ref m4, .ref m5, .ref m6, .ref m7, .ref m8, .ref m9, .ref m10])), (m2, .inl (cI, 128, .inl rs)), (m3, .inl (cL, 8, .inr (.inl st))), (m4, .inl (cL, 80, .inr (.inl cu))), (m6, .inl (cL, 80, .inr (.inl (mo_ws ww rs t)))), (m7, .inl (cL, 8, .inr (.inl rr)))] → va_S A s.heap H locs → lv_has ls 17 [(0, .ref m0), (1, .int (nI t)), (2, .long (mo_be rs t k)), (4, .int (nI k))] → W p l e rm_X3_shaBlock s m args below meth co H locs 0 0 Q (F0 m 19 ls []) := by
            intro d2
            induction d2 with
            | zero =>
              intro k hk H locs ls hP hD hS hl
              obtain rfl : k = 8 := by omega
              refine lv_iload hx hb dX3_shaBlock_19 (lv_at hl 3 rfl) ?_
              refine lv_bipush (v := 8) hx hb dX3_shaBlock_21 (by decide) ?_
              refine lv_icmp_ge (tgt := 51) hx hb dX3_shaBlock_23 (by decide) (fun c => ?_) (fun c => ?_)
              · refine lv_aload_n hx hb dX3_shaBlock_51 rfl (lv_at hl 0 rfl) ?_
                refine va_get (D := D) (ci := 3) (v := .ref m6) (C := RX3) (T := TX3) (N := 17) hx hb hts hi_3 hown hK hP 0 rfl rfl 12 (by decide) fl_26 (fun _ h9 => h9) rfl dX3_shaBlock_52 ?_
                refine lv_iload_n hx hb dX3_shaBlock_55 rfl (lv_at hl 1 rfl) ?_
                refine lv_lload_n hx hb dX3_shaBlock_56 rfl (lv_at hl 2 rfl) ?_
                refine xk_last hx hb hK hP hD hS 4 1 rfl rfl t rfl (by omega) (by decide) dX3_shaBlock_57 (fun H locs hP hD hS => ?_)
                have hP : va_P D classes [(m0, .inr (3, [.int rd, .int md, .int cd, .int ln, .ref m1, .long pp, .long qq, .ref m2, .int hd, .ref m3, .ref m4, .ref m5, .ref m6, .ref m7, .ref m8, .ref m9, .ref m10])), (m2, .inl (cI, 128, .inl rs)), (m3, .inl (cL, 8, .inr (.inl st))), (m4, .inl (cL, 80, .inr (.inl cu))), (m6, .inl (cL, 80, .inr (.inl (vp_updL (mo_ws ww rs t) t (mo_be rs t 8))))), (m7, .inl (cL, 8, .inr (.inl rr)))] H := hP
                have hD : va_D A [(m0, .inr (3, [.int rd, .int md, .int cd, .int ln, .ref m1, .long pp, .long qq, .ref m2, .int hd, .ref m3, .ref m4, .ref m5, .ref m6, .ref m7, .ref m8, .ref m9, .ref m10])), (m2, .inl (cI, 128, .inl rs)), (m3, .inl (cL, 8, .inr (.inl st))), (m4, .inl (cL, 80, .inr (.inl cu))), (m6, .inl (cL, 80, .inr (.inl (vp_updL (mo_ws ww rs t) t (mo_be rs t 8))))), (m7, .inl (cL, 8, .inr (.inl rr)))] := hD
                generalize eL8 : vp_updL (mo_ws ww rs t) t (mo_be rs t 8) = L8 at hP hD
                refine lv_goto (tgt := 154) hx hb dX3_shaBlock_58 (by decide) ?_
                subst eL8
                rw [show vp_updL (mo_ws ww rs t) t (mo_be rs t 8) = mo_ws ww rs (t + 1) from by show _ = vp_updL _ _ (if t < 16 then _ else _); rw [if_pos c2]] at hP hD
                refine lv_iinc (v := nI (t + 1)) (lv' := [(1, .int (nI (t + 1))), (0, .ref m0), (2, .long (mo_be rs t 8)), (4, .int (nI 8))]) hx hb dX3_shaBlock_154 hl (k := 1) rfl (xk_i1 (by omega)) (by decide) rfl (fun ls hl => ?_)
                refine lv_goto (tgt := 2) hx hb dX3_shaBlock_157 (by decide) ?_
                exact ihloopA (t + 1) (by omega) _ _ _ hP hD hS (lv_sub hl [1, 0] rfl)
              · exact absurd (nI_le (a := 8) (b := 8) (by omega) (by omega)) c
            | succ d2 ihloopI =>
              intro k hk H locs ls hP hD hS hl
              refine lv_iload hx hb dX3_shaBlock_19 (lv_at hl 3 rfl) ?_
              refine lv_bipush (v := 8) hx hb dX3_shaBlock_21 (by decide) ?_
              refine lv_icmp_ge (tgt := 51) hx hb dX3_shaBlock_23 (by decide) (fun c => ?_) (fun c => ?_)
              · exact absurd c (nI_ge (a := k) (b := 8) (by omega) (by omega))
              · refine lv_lload_n hx hb dX3_shaBlock_26 rfl (lv_at hl 2 rfl) ?_
                refine lv_bipush (v := 8) hx hb dX3_shaBlock_27 (by decide) ?_
                refine lv_lshl (v := (xm_l (mo_be rs t k) 8)) hx hb dX3_shaBlock_29 rfl ?_
                refine lv_aload_n hx hb dX3_shaBlock_30 rfl (lv_at hl 0 rfl) ?_
                refine va_get (D := D) (ci := 3) (v := .ref m2) (C := RX3) (T := TX3) (N := 17) hx hb hts hi_3 hown hK hP 0 rfl rfl 7 (by decide) fl_13 (fun _ h9 => h9) rfl dX3_shaBlock_31 ?_
                refine lv_bipush (v := 8) hx hb dX3_shaBlock_34 (by decide) ?_
                refine lv_iload_n hx hb dX3_shaBlock_36 rfl (lv_at hl 1 rfl) ?_
                refine xk_imulN hx hb 8 t (8 * t) rfl rfl (by omega) dX3_shaBlock_37 ?_
                refine lv_iload hx hb dX3_shaBlock_38 (lv_at hl 3 rfl) ?_
                refine xk_iaddN hx hb (8 * t) k ((8 * t) + k) rfl rfl (by omega) dX3_shaBlock_40 ?_
                refine xk_iald hx hb hK hP 1 0 rfl rfl ((8 * t) + k) rfl (by omega) (by decide) dX3_shaBlock_41 ?_
                refine lv_i2l (v := (Int32.toInt64 (rs ((8 * t) + k)))) hx hb dX3_shaBlock_42 rfl ?_
                refine lv_lor hx hb dX3_shaBlock_43 ?_
                refine lv_lstore_n (lv' := [(2, .long ((xm_l (mo_be rs t k) 8) ||| (Int32.toInt64 (rs ((8 * t) + k))))), (0, .ref m0), (1, .int (nI t)), (4, .int (nI k))]) hx hb dX3_shaBlock_44 rfl hl (by decide) rfl (fun ls hl => ?_)
                refine lv_iinc (v := nI (k + 1)) (lv' := [(4, .int (nI (k + 1))), (2, .long ((xm_l (mo_be rs t k) 8) ||| (Int32.toInt64 (rs ((8 * t) + k))))), (0, .ref m0), (1, .int (nI t))]) hx hb dX3_shaBlock_45 hl (k := 3) rfl (xk_i1 (by omega)) (by decide) rfl (fun ls hl => ?_)
                refine lv_goto (tgt := 19) hx hb dX3_shaBlock_48 (by decide) ?_
                exact ihloopI (k + 1) (by omega) _ _ _ hP hD hS (lv_sub hl [2, 3, 1, 0] rfl)
          exact loopI 8 0 rfl _ _ _ hP hD hS (lv_sub hl [2, 3, 1, 0] rfl)
  exact loopA 80 0 rfl _ _ _ hP hD hS (lv_sub hl [1, 0] rfl)
