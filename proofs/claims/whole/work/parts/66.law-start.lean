set_option maxHeartbeats 4000000 in
set_option maxRecDepth 100000 in
/-- THE LAW, from its entry -/
theorem whole_start {p : Program} {e : Env} {s : State} {m : MethodId} {below : List Frame} {meth : Method} {c : Code} (l : Launch) {b L : Nat} {xs : Nat → Int32} (hL : L ≤ 2560) (C0 : lw_At p s m meth c b L xs) : W p l e room_1 s m #[Value.ref b] below meth c s.heap [] 0 0 (lw_Z below #[Value.ref b] s) (entryFrame m ([Value.ref b] : List Value).toArray 4) := by
  obtain ⟨hx, hb, hr, hml, hown, hts0, hX0, hbl, hlocks, hgv⟩ := id C0
  have hts : ∀ w ∈ wsL_law, w.before #[Value.ref b] s = true := fun w h => hts0 w (wsL_law_in w h)
  obtain ⟨A, hA, hAf⟩ : ∃ A : Nat → Prop, (∀ q : Nat, s.heap.size ≤ q → A q) ∧ (∀ q : Nat, A q → s.heap.size ≤ q) := ⟨fun q => s.heap.size ≤ q, fun _ h => h, fun _ h => h⟩
  have hbA : ¬ A b := fun h => absurd (hAf b h) (Nat.not_le.mpr hbl)
  have hX : xs_X A s s.heap := st_X hts0 hgv (fun a h q => absurd (hAf a q) (Nat.not_le.mpr h))
  obtain ⟨cI, hI1, hI2⟩ := st_arrI (hts0 (.arrayClass .int) (by decide +kernel))
  obtain ⟨cL, hL1, hL2⟩ := st_arrL (hts0 (.arrayClass .long) (by decide +kernel))
  obtain ⟨c0, iS0, hKn0⟩ := u_known (C := RX0) (T := TX0) (N := 4) (n := 4) hts0 inX0 (hts0 (.instantiable RX0 4) (by decide +kernel))
  obtain ⟨c1, iS1, hKn1⟩ := u_known (C := RX1) (T := TX1) (N := 4) (n := 4) hts0 inX1 (hts0 (.instantiable RX1 4) (by decide +kernel))
  obtain ⟨c2, iS2, hKn2⟩ := u_known (C := RX2) (T := TX2) (N := 7) (n := 7) hts0 inX2 (hts0 (.instantiable RX2 7) (by decide +kernel))
  obtain ⟨c3, iS3, hKn3⟩ := u_known (C := RX3) (T := TX3) (N := 17) (n := 17) hts0 inX3 (hts0 (.instantiable RX3 17) (by decide +kernel))
  obtain ⟨D, hKc⟩ : ∃ D : va_G, ∀ (k : Nat) (q : vw_C), classes[k]? = some q → u_Kn s q.1 q.2.1 q.2.2 (D.1 k) (D.2 k) := by
    refine ⟨(fun k => if k = 0 then c0 else if k = 1 then c1 else if k = 2 then c2 else c3, fun k => if k = 0 then iS0 else if k = 1 then iS1 else if k = 2 then iS2 else iS3), ?_⟩
    intro k q hq
    match k, hq with
    | 0, hq => cases hq; exact hKn0
    | 1, hq => cases hq; exact hKn1
    | 2, hq => cases hq; exact hKn2
    | 3, hq => cases hq; exact hKn3
    | k + 4, hq => simp [classes] at hq
  have hK : va_K D classes [(cI, .int), (cL, .long)] s := ⟨hKc, fun k q h => by
    match k, h with
    | 0, h => cases h; exact ⟨hI1, hI2⟩
    | 1, h => cases h; exact ⟨hL1, hL2⟩
    | k + 2, h => simp at h⟩
  have hS : va_S A s.heap s.heap [] := va_S.rf
  have hP : va_P D classes [] s.heap := fun k q h => by simp at h
  have hD : va_D A [] := ⟨fun i j p q h => by simp at h, fun k q h => by simp at h⟩
  have hl := lv_entry ([.ref b]) (n := 4) (Nat.le_of_ble_eq_true rfl)
  rw [lg_entry_eq]
  generalize (lg_sl ([.ref b]) ++ List.replicate (4 - (lg_sl ([.ref b])).length) Slot.unset).toArray = ls at hl ⊢
  have hl : lv_has ls 4 [(0, .ref b)] := hl
  have nw_2 : ∀ w ∈ u_ws RX2 TX2 7, w ∈ wsL_law := inlX2
  have cl_7 := hts (.classLink RL 7 RX2) (by decide +kernel)
  have it_2 := hts (.instantiable RX2 7) (by decide +kernel)
  have in_X2 := hts (.initialized RX2) (by decide +kernel)
  have sm_9 := hts (.instanceMethod yX2_init) (by decide +kernel)
  have nw_3 : ∀ w ∈ u_ws RX3 TX3 17, w ∈ wsL_law := inlX3
  have cl_10 := hts (.classLink RL 10 RX3) (by decide +kernel)
  have it_3 := hts (.instantiable RX3 17) (by decide +kernel)
  have in_X3 := hts (.initialized RX3) (by decide +kernel)
  have sm_12 := hts (.instanceMethod yX3_init) (by decide +kernel)
  refine va_new (ci := 2) (fs := [.null, .null, .null, .int 0, .int 0, .int 0, .int 0]) (C := RX2) (T := TX2) (N := 7) hx hb hts nw_2 tyX2 tyX2_ok hown cl_7 it_2 in_X2 hK hP hD hS hA rfl (fun j hj => by rcases (show j = 0 ∨ j = 1 ∨ j = 2 ∨ j = 3 ∨ j = 4 ∨ j = 5 ∨ j = 6 by omega) with rfl | rfl | rfl | rfl | rfl | rfl | rfl <;> rfl) (Nat.le_of_ble_eq_true rfl) (Nat.le_of_ble_eq_true rfl) dL_law_0 (fun h0 H hP hD hS => ?_)
  have hP : va_P D classes [(h0, .inr (2, [.null, .null, .null, .int 0, .int 0, .int 0, .int 0]))] H := hP
  have hD : va_D A [(h0, .inr (2, [.null, .null, .null, .int 0, .int 0, .int 0, .int 0]))] := hD
  refine W.widen (k := 1) (n := 7) (by omega) (by omega) ?_
  refine lv_dup hx hb dL_law_3 rfl ?_
  refine xk_goC (wr := []) (va_runI (As := []) (rest := [.ref h0]) ⟨hx, hb, hml, hown, hts⟩ (c_X2_init l D cI cL H.size h0) (cwI 0 hts gL_law_X2_init rfl rfl rfl in_X2 (hts (.methodLink RL 9 yX2_init) (by decide +kernel)) sm_9 rfl (by decide +kernel) ⟨Nat.le_of_ble_eq_true rfl, Nat.le_of_ble_eq_true rfl⟩) ⟨xk_blind xs_X_ok, xk_at xs_X_ok hX hP hD hK hS hA [0] rfl (by decide) rfl⟩ rfl rfl hl.1 rfl (lv_room (Nat.le_of_ble_eq_true rfl)) dL_law_4 ⟨Nat.le_of_ble_eq_true rfl, Nat.le_of_ble_eq_true rfl⟩) hP hD hS hA [0] [] rfl rfl (by decide) (by decide) (fun u H locs hP hD hS => ?_)
  obtain ⟨h1, h2, h3, h4, h5, h6, h7⟩ := u
  have hP : va_P D classes [(h0, .inr (2, [.ref h1, .ref h2, .ref h3, .int 0, .int 0, .int 0, .int 0])), (h1, .inr (0, [.ref h4, .ref h5, .ref h6, .int 0])), (h4, .inl (cI, 16, .inl (fun _ => 0))), (h5, .inl (cI, 16, .inl (fun _ => 0))), (h6, .inl (cI, 160, .inl (fun _ => 0))), (h2, .inr (1, [.ref h7, .int 0, .int 0, .int 0])), (h7, .inl (cI, 8, .inl (fun _ => 0))), (h3, .inl (cI, 4, .inl (fun _ => 0)))] H := hP
  have hD : va_D A [(h0, .inr (2, [.ref h1, .ref h2, .ref h3, .int 0, .int 0, .int 0, .int 0])), (h1, .inr (0, [.ref h4, .ref h5, .ref h6, .int 0])), (h4, .inl (cI, 16, .inl (fun _ => 0))), (h5, .inl (cI, 16, .inl (fun _ => 0))), (h6, .inl (cI, 160, .inl (fun _ => 0))), (h2, .inr (1, [.ref h7, .int 0, .int 0, .int 0])), (h7, .inl (cI, 8, .inl (fun _ => 0))), (h3, .inl (cI, 4, .inl (fun _ => 0)))] := hD
  refine W.widen (k := 8) (n := 219) (by omega) (by omega) ?_
  refine lv_astore_n (lv' := [(1, .ref h0), (0, .ref b)]) hx hb dL_law_7 rfl hl (by decide) rfl (fun ls hl => ?_)
  refine va_new (ci := 3) (fs := [.int 0, .int 0, .int 0, .int 0, .null, .long 0, .long 0, .null, .int 0, .null, .null, .null, .null, .null, .null, .null, .null]) (C := RX3) (T := TX3) (N := 17) hx hb hts nw_3 tyX3 tyX3_ok hown cl_10 it_3 in_X3 hK hP hD hS hA rfl (fun j hj => by rcases (show j = 0 ∨ j = 1 ∨ j = 2 ∨ j = 3 ∨ j = 4 ∨ j = 5 ∨ j = 6 ∨ j = 7 ∨ j = 8 ∨ j = 9 ∨ j = 10 ∨ j = 11 ∨ j = 12 ∨ j = 13 ∨ j = 14 ∨ j = 15 ∨ j = 16 by omega) with rfl | rfl | rfl | rfl | rfl | rfl | rfl | rfl | rfl | rfl | rfl | rfl | rfl | rfl | rfl | rfl | rfl <;> rfl) (Nat.le_of_ble_eq_true rfl) (Nat.le_of_ble_eq_true rfl) dL_law_8 (fun m0 H hP hD hS => ?_)
  have hP : va_P D classes [(h0, .inr (2, [.ref h1, .ref h2, .ref h3, .int 0, .int 0, .int 0, .int 0])), (h1, .inr (0, [.ref h4, .ref h5, .ref h6, .int 0])), (h4, .inl (cI, 16, .inl (fun _ => 0))), (h5, .inl (cI, 16, .inl (fun _ => 0))), (h6, .inl (cI, 160, .inl (fun _ => 0))), (h2, .inr (1, [.ref h7, .int 0, .int 0, .int 0])), (h7, .inl (cI, 8, .inl (fun _ => 0))), (h3, .inl (cI, 4, .inl (fun _ => 0))), (m0, .inr (3, [.int 0, .int 0, .int 0, .int 0, .null, .long 0, .long 0, .null, .int 0, .null, .null, .null, .null, .null, .null, .null, .null]))] H := hP
  have hD : va_D A [(h0, .inr (2, [.ref h1, .ref h2, .ref h3, .int 0, .int 0, .int 0, .int 0])), (h1, .inr (0, [.ref h4, .ref h5, .ref h6, .int 0])), (h4, .inl (cI, 16, .inl (fun _ => 0))), (h5, .inl (cI, 16, .inl (fun _ => 0))), (h6, .inl (cI, 160, .inl (fun _ => 0))), (h2, .inr (1, [.ref h7, .int 0, .int 0, .int 0])), (h7, .inl (cI, 8, .inl (fun _ => 0))), (h3, .inl (cI, 4, .inl (fun _ => 0))), (m0, .inr (3, [.int 0, .int 0, .int 0, .int 0, .null, .long 0, .long 0, .null, .int 0, .null, .null, .null, .null, .null, .null, .null, .null]))] := hD
  refine W.widen (k := 9) (n := 236) (by omega) (by omega) ?_
  refine lv_dup hx hb dL_law_11 rfl ?_
  refine xk_goC (wr := [(h0, .inr (2, [.ref h1, .ref h2, .ref h3, .int 0, .int 0, .int 0, .int 0])), (h1, .inr (0, [.ref h4, .ref h5, .ref h6, .int 0])), (h4, .inl (cI, 16, .inl (fun _ => 0))), (h5, .inl (cI, 16, .inl (fun _ => 0))), (h6, .inl (cI, 160, .inl (fun _ => 0))), (h2, .inr (1, [.ref h7, .int 0, .int 0, .int 0])), (h7, .inl (cI, 8, .inl (fun _ => 0))), (h3, .inl (cI, 4, .inl (fun _ => 0)))]) (va_runI (As := []) (rest := [.ref m0]) ⟨hx, hb, hml, hown, hts⟩ (c_X3_init l D cI cL H.size m0) (cwI 0 hts gL_law_X3_init rfl rfl rfl in_X3 (hts (.methodLink RL 12 yX3_init) (by decide +kernel)) sm_12 rfl (by decide +kernel) ⟨Nat.le_of_ble_eq_true rfl, Nat.le_of_ble_eq_true rfl⟩) ⟨xk_blind xk_0_ok, xk_at xk_0_ok trivial hP hD hK hS hA [8] rfl (by decide) rfl⟩ rfl rfl hl.1 rfl (lv_room (Nat.le_of_ble_eq_true rfl)) dL_law_12 ⟨Nat.le_of_ble_eq_true rfl, Nat.le_of_ble_eq_true rfl⟩) hP hD hS hA [8] [0, 1, 2, 3, 4, 5, 6, 7] rfl rfl (by decide) (by decide) (fun u H locs hP hD hS => ?_)
  obtain ⟨m1, m2, m3, m4, m5, m6, m7, m8, m9, m10, rt, s2, s3⟩ := u
  have hP : va_P D classes [(h0, .inr (2, [.ref h1, .ref h2, .ref h3, .int 0, .int 0, .int 0, .int 0])), (h1, .inr (0, [.ref h4, .ref h5, .ref h6, .int 0])), (h4, .inl (cI, 16, .inl (fun _ => 0))), (h5, .inl (cI, 16, .inl (fun _ => 0))), (h6, .inl (cI, 160, .inl (fun _ => 0))), (h2, .inr (1, [.ref h7, .int 0, .int 0, .int 0])), (h7, .inl (cI, 8, .inl (fun _ => 0))), (h3, .inl (cI, 4, .inl (fun _ => 0))), (m0, .inr (3, [.int 0, .int 0, .int 0, .int 0, .ref m1, .long 0, .long 0, .ref m2, .int 0, .ref m3, .ref m4, .ref m5, .ref m6, .ref m7, .ref m8, .ref m9, .ref m10])), (m1, .inl (cI, 4, .inl (fun _ => 0))), (m2, .inl (cI, 128, .inl (fun _ => 0))), (m3, .inl (cL, 8, .inr (.inl (fun _ => 0)))), (m4, .inl (cL, 80, .inr (.inl (mo_cuf 80)))), (m5, .inl (cL, 16, .inr (.inl (mo_sqf 80)))), (m6, .inl (cL, 80, .inr (.inl (fun _ => 0)))), (m7, .inl (cL, 8, .inr (.inl (fun _ => 0)))), (m8, .inl (cL, 5, .inr (.inl rt))), (m9, .inl (cL, 10, .inr (.inl s2))), (m10, .inl (cL, 15, .inr (.inl s3)))] H := hP
  have hD : va_D A [(h0, .inr (2, [.ref h1, .ref h2, .ref h3, .int 0, .int 0, .int 0, .int 0])), (h1, .inr (0, [.ref h4, .ref h5, .ref h6, .int 0])), (h4, .inl (cI, 16, .inl (fun _ => 0))), (h5, .inl (cI, 16, .inl (fun _ => 0))), (h6, .inl (cI, 160, .inl (fun _ => 0))), (h2, .inr (1, [.ref h7, .int 0, .int 0, .int 0])), (h7, .inl (cI, 8, .inl (fun _ => 0))), (h3, .inl (cI, 4, .inl (fun _ => 0))), (m0, .inr (3, [.int 0, .int 0, .int 0, .int 0, .ref m1, .long 0, .long 0, .ref m2, .int 0, .ref m3, .ref m4, .ref m5, .ref m6, .ref m7, .ref m8, .ref m9, .ref m10])), (m1, .inl (cI, 4, .inl (fun _ => 0))), (m2, .inl (cI, 128, .inl (fun _ => 0))), (m3, .inl (cL, 8, .inr (.inl (fun _ => 0)))), (m4, .inl (cL, 80, .inr (.inl (mo_cuf 80)))), (m5, .inl (cL, 16, .inr (.inl (mo_sqf 80)))), (m6, .inl (cL, 80, .inr (.inl (fun _ => 0)))), (m7, .inl (cL, 8, .inr (.inl (fun _ => 0)))), (m8, .inl (cL, 5, .inr (.inl rt))), (m9, .inl (cL, 10, .inr (.inl s2))), (m10, .inl (cL, 15, .inr (.inl s3)))] := hD
  refine W.widen (k := 19) (n := 590) (by omega) (by omega) ?_
  refine lv_astore_n (lv' := [(2, .ref m0), (1, .ref h0), (0, .ref b)]) hx hb dL_law_15 rfl hl (by decide) rfl (fun ls hl => ?_)
  refine lv_iconst (v := 0) hx hb dL_law_16 (by decide) ?_
  refine lv_istore_n (lv' := [(3, .int 0), (2, .ref m0), (1, .ref h0), (0, .ref b)]) hx hb dL_law_17 rfl hl (by decide) rfl (fun ls hl => ?_)
  refine law_loop hL C0 hA hAf hbA hK hX (L / 5) 0 (Nat.zero_add _) 0 0 0 0 0 ((fun _ => 0), (fun _ => 0), (fun _ => 0), 0) ((fun _ => 0), 0, 0, 0) (fun _ => 0) 0 0 0 (fun _ => 0) (fun _ => 0) (fun _ => 0) (fun _ => 0) rt s2 s3 (Or.inl rfl) (Or.inl ⟨rfl, rfl, rfl⟩) _ _ _ hP hD hS (lv_sub hl [3, 2, 1, 0] rfl)
