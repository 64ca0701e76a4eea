/-! MATHEMATICS 2: a block of SHA-512: rows of halves against rows of long numbers -/
def pr_ (f : Nat → Int32) (j : Nat) : Int64 := mo_of (f (2 * j)) (f (2 * j + 1))
theorem pr_add (f : Nat → Int32) (j i : Nat) (u w : Int32) : pr_ (jc_addTo f (2 * j) u w) i = if i = j then pr_ f j + mo_of u w else pr_ f i := by
  unfold pr_ jc_addTo
  by_cases h : i = j
  · subst h
    rw [if_pos rfl, pk_us, pk_un (show 2 * i ≠ 2 * i + 1 by omega), pk_us, pk_un (show 2 * i + 1 ≠ 2 * i by omega)]
    exact of_add _ _ _ _
  · rw [if_neg h, pk_un (show 2 * i ≠ 2 * j + 1 by omega), pk_un (show 2 * i ≠ 2 * j by omega), pk_un (show 2 * i + 1 ≠ 2 * j + 1 by omega), pk_un (show 2 * i + 1 ≠ 2 * j by omega)]
theorem pr_put (f : Nat → Int32) (j i : Nat) (u w : Int32) : pr_ (upd (upd f (2 * j) u) (2 * j + 1) w) i = if i = j then mo_of u w else pr_ f i := by
  unfold pr_
  by_cases h : i = j
  · subst h
    rw [if_pos rfl, pk_us, pk_un (show 2 * i ≠ 2 * i + 1 by omega), pk_us]
  · rw [if_neg h, pk_un (show 2 * i ≠ 2 * j + 1 by omega), pk_un (show 2 * i ≠ 2 * j by omega), pk_un (show 2 * i + 1 ≠ 2 * j + 1 by omega), pk_un (show 2 * i + 1 ≠ 2 * j by omega)]
theorem of_s0 (u w : Int32) : mo_of ((jc_turned u w 1 ^^^ jc_turned u w 8) ^^^ xj_u u 7) ((jc_turned w u 1 ^^^ jc_turned w u 8) ^^^ jc_turned w u 7) = mo_s0 (mo_of u w) := by
  unfold mo_s0
  rw [tu_moved u w 7 (by decide) (by decide), of_xor, of_xor, of_turned u w 1 1 rfl, of_turned u w 8 8 rfl]
  exact congrArg _ (of_moved u w 7 (by omega))
theorem of_s1 (u w : Int32) : mo_of ((jc_turned u w 19 ^^^ jc_turned u w 61) ^^^ xj_u u 6) ((jc_turned w u 19 ^^^ jc_turned w u 61) ^^^ jc_turned w u 6) = mo_s1 (mo_of u w) := by
  unfold mo_s1
  rw [tu_moved u w 6 (by decide) (by decide), of_xor, of_xor, of_turned u w 19 19 rfl, of_turned u w 61 61 rfl]
  exact congrArg _ (of_moved u w 6 (by omega))
theorem of_SA (u w : Int32) : mo_of (jc_SA u w) (jc_SA w u) = (mo_right (mo_of u w) 28 ^^^ mo_right (mo_of u w) 34) ^^^ mo_right (mo_of u w) 39 := by
  unfold jc_SA
  rw [of_xor, of_xor, of_turned u w 28 28 rfl, of_turned u w 34 34 rfl, of_turned u w 39 39 rfl]
theorem of_SE (u w : Int32) : mo_of (jc_SE u w) (jc_SE w u) = (mo_right (mo_of u w) 14 ^^^ mo_right (mo_of u w) 18) ^^^ mo_right (mo_of u w) 41 := by
  unfold jc_SE
  rw [of_xor, of_xor, of_turned u w 14 14 rfl, of_turned u w 18 18 rfl, of_turned u w 41 41 rfl]
theorem pr_ext1 (f : Nat → Int32) (t i : Nat) (ht : 16 ≤ t) : pr_ (jc_ext1 f (2 * t)) i = if i = t then pr_ f (t - 16) else pr_ f i := by
  unfold jc_ext1
  rw [pr_put, pk_un (show 2 * t - 31 ≠ 2 * t by omega), show 2 * t - 32 = 2 * (t - 16) by omega, show 2 * t - 31 = 2 * (t - 16) + 1 by omega]
  rfl
theorem pr_ext (f : Nat → Int32) (t i : Nat) (ht : 16 ≤ t) : pr_ (jc_extend f (2 * t)) i = if i = t then mo_wn (pr_ f) t else pr_ f i := by
  unfold jc_extend
  generalize e1 : jc_ext1 f (2 * t) = G1
  have b1 : ∀ q, pr_ G1 q = if q = t then pr_ f (t - 16) else pr_ f q := fun q => by rw [← e1]; exact pr_ext1 f t q ht
  generalize e2 : jc_ext2 G1 (2 * t) (f (2 * t - 30)) (f (2 * t - 29)) = G2
  have b2 : ∀ q, pr_ G2 q = if q = t then pr_ G1 t + mo_s0 (pr_ f (t - 15)) else pr_ G1 q := fun q => by
    rw [← e2]
    unfold jc_ext2
    rw [pr_add, of_s0, show 2 * t - 30 = 2 * (t - 15) by omega, show 2 * t - 29 = 2 * (t - 15) + 1 by omega]
    rfl
  generalize e3 : jc_ext3 G2 (2 * t) = G3
  have b3 : ∀ q, pr_ G3 q = if q = t then pr_ G2 t + pr_ G2 (t - 7) else pr_ G2 q := fun q => by
    rw [← e3]
    unfold jc_ext3
    rw [pr_add, show 2 * t - 14 = 2 * (t - 7) by omega, show 2 * t - 13 = 2 * (t - 7) + 1 by omega]
    rfl
  have b4 : pr_ (jc_ext4 G3 (2 * t) (f (2 * t - 4)) (f (2 * t - 3))) i = if i = t then pr_ G3 t + mo_s1 (pr_ f (t - 2)) else pr_ G3 i := by
    unfold jc_ext4
    rw [pr_add, of_s1, show 2 * t - 4 = 2 * (t - 2) by omega, show 2 * t - 3 = 2 * (t - 2) + 1 by omega]
    rfl
  rw [b4]
  by_cases h : i = t
  · rw [if_pos h, if_pos h, b3 t, if_pos rfl, b2 t, if_pos rfl, b1 t, if_pos rfl, b2 (t - 7), if_neg (by omega), b1 (t - 7), if_neg (by omega)]
    rfl
  · rw [if_neg h, if_neg h, b3 i, if_neg h, b2 i, if_neg h, b1 i, if_neg h]
theorem mo_ws_lo (ww : Nat → Int64) (rs : Nat → Int32) : ∀ t, t ≤ 16 → ∀ i, i < t → mo_ws ww rs t i = mo_be rs i 8
  | 0, _, i, hi => absurd hi (Nat.not_lt_zero i)
  | t + 1, ht, i, hi => by
    show vp_updL (mo_ws ww rs t) t (if t < 16 then mo_be rs t 8 else mo_wn (mo_ws ww rs t) t) i = _
    by_cases h : i = t
    · subst h
      rw [pk_uLs, if_pos (by omega)]
    · rw [pk_uLn h]
      exact mo_ws_lo ww rs t (by omega) i (by omega)
theorem pr_exts (f : Nat → Int32) (ww : Nat → Int64) (rs : Nat → Int32) (h0 : ∀ i, i < 16 → pr_ f i = mo_be rs i 8) : ∀ n i, i < 16 + n → pr_ (jc_exts f n) i = mo_ws ww rs (16 + n) i
  | 0, i, hi => by
    rw [mo_ws_lo ww rs 16 (by omega) i (by omega)]
    exact h0 i (by omega)
  | n + 1, i, hi => by
    show pr_ (jc_extend (jc_exts f n) (32 + 2 * n)) i = vp_updL (mo_ws ww rs (16 + n)) (16 + n) (if 16 + n < 16 then mo_be rs (16 + n) 8 else mo_wn (mo_ws ww rs (16 + n)) (16 + n)) i
    have ih := pr_exts f ww rs h0 n
    rw [show 32 + 2 * n = 2 * (16 + n) by omega, pr_ext _ _ _ (by omega)]
    by_cases h : i = 16 + n
    · subst h
      rw [if_pos rfl, pk_uLs, if_neg (by omega)]
      unfold mo_wn
      rw [ih _ (by omega), ih _ (by omega), ih _ (by omega), ih _ (by omega)]
    · rw [if_neg h, pk_uLn h]
      exact ih i (by omega)
theorem q_maj (a b c : Int64) : ((a &&& b) ^^^ (a &&& c)) ^^^ (b &&& c) = ((a &&& b) ||| (a &&& c)) ||| (b &&& c) := q_ext (fun i hi => by
  rw [q_xor, q_xor, q_or, q_or, q_and, q_and, q_and]
  cases bq a i <;> cases bq b i <;> cases bq c i <;> rfl)
def r_x (cr w p : Nat → Int64) (t : Nat) : Int64 := (((p 7 + ((mo_right (p 4) 14 ^^^ mo_right (p 4) 18) ^^^ mo_right (p 4) 41)) + ((p 4 &&& p 5) ^^^ ((p 4 ^^^ (-1)) &&& p 6))) + cr t) + w t
theorem pr_rx (cr f g : Nat → Int32) (t j : Nat) : pr_ (jc_rx cr f g (2 * t)) j = if j = 7 then r_x (pr_ cr) (pr_ g) (pr_ f) t else pr_ f j := by
  unfold jc_rx
  generalize e1 : jc_r1 f = G1
  have b1 : ∀ q, pr_ G1 q = if q = 7 then pr_ f 7 + ((mo_right (pr_ f 4) 14 ^^^ mo_right (pr_ f 4) 18) ^^^ mo_right (pr_ f 4) 41) else pr_ f q := fun q => by
    have e := pr_add f 7 q (jc_SE (f 8) (f 9)) (jc_SE (f 9) (f 8))
    rw [of_SE] at e
    rw [← e1]
    exact e
  generalize e2 : jc_r2 G1 = G2
  have b2 : ∀ q, pr_ G2 q = if q = 7 then pr_ G1 7 + ((pr_ G1 4 &&& pr_ G1 5) ^^^ ((pr_ G1 4 ^^^ (-1)) &&& pr_ G1 6)) else pr_ G1 q := fun q => by
    have e := pr_add G1 7 q (jc_ch G1 0) (jc_ch G1 1)
    have ec : mo_of (jc_ch G1 0) (jc_ch G1 1) = (pr_ G1 4 &&& pr_ G1 5) ^^^ ((pr_ G1 4 ^^^ (-1)) &&& pr_ G1 6) := by
      show mo_of ((G1 8 &&& G1 10) ^^^ ((G1 8 ^^^ (-1)) &&& G1 12)) ((G1 9 &&& G1 11) ^^^ ((G1 9 ^^^ (-1)) &&& G1 13)) = _
      rw [of_xor, of_and, of_and, of_not]
      rfl
    rw [ec] at e
    rw [← e2]
    exact e
  generalize e3 : jc_r3 G2 cr (2 * t) = G3
  have b3 : ∀ q, pr_ G3 q = if q = 7 then pr_ G2 7 + pr_ cr t else pr_ G2 q := fun q => by
    rw [← e3]
    exact pr_add G2 7 q (cr (2 * t)) (cr (2 * t + 1))
  have b4 : pr_ (jc_r3 G3 g (2 * t)) j = if j = 7 then pr_ G3 7 + pr_ g t else pr_ G3 j := pr_add G3 7 j (g (2 * t)) (g (2 * t + 1))
  rw [b4]
  by_cases h : j = 7
  · rw [if_pos h, if_pos h, b3 7, if_pos rfl, b2 7, if_pos rfl, b1 7, if_pos rfl, b1 4, b1 5, b1 6, if_neg (by omega), if_neg (by omega), if_neg (by omega)]
    rfl
  · rw [if_neg h, if_neg h, b3 j, if_neg h, b2 j, if_neg h, b1 j, if_neg h]
def r_y (p : Nat → Int64) : Int64 := ((mo_right (p 0) 28 ^^^ mo_right (p 0) 34) ^^^ mo_right (p 0) 39) + (((p 0 &&& p 1) ||| (p 0 &&& p 2)) ||| (p 1 &&& p 2))
theorem pr_cpy (f : Nat → Int32) (j : Nat) (h0 : 0 < j) (h : j < 8) : pr_ (va_cpy f f 0 2 14) j = pr_ f (j - 1) := by
  unfold pr_
  rw [pk_cpy_in (by omega) (by omega), pk_cpy_in (by omega) (by omega)]
  congr 2 <;> omega
theorem pr_r4 (f : Nat → Int32) (j : Nat) (h : j < 8) : pr_ (jc_r4 f) j = if j = 0 then pr_ f 7 else if j = 4 then pr_ f 3 + pr_ f 7 else pr_ f (j - 1) := by
  unfold jc_r4
  have e := pr_put (jc_addTo (va_cpy f f 0 2 14) 8 (f 14) (f 15)) 0 j (f 14) (f 15)
  rw [show pr_ (upd (upd (jc_addTo (va_cpy f f 0 2 14) 8 (f 14) (f 15)) 0 (f 14)) 1 (f 15)) j = _ from e]
  by_cases h0 : j = 0
  · rw [if_pos h0, if_pos h0]; rfl
  · rw [if_neg h0, if_neg h0]
    have e2 := pr_add (va_cpy f f 0 2 14) 4 j (f 14) (f 15)
    rw [show pr_ (jc_addTo (va_cpy f f 0 2 14) 8 (f 14) (f 15)) j = _ from e2]
    by_cases h4 : j = 4
    · rw [if_pos h4, if_pos h4, pr_cpy f 4 (by omega) (by omega)]; rfl
    · rw [if_neg h4, if_neg h4, pr_cpy f j (by omega) h]
theorem pr_round (cr f g : Nat → Int32) (t j : Nat) (h : j < 8) : pr_ (jc_round cr f g (2 * t)) j =
    if j = 0 then r_x (pr_ cr) (pr_ g) (pr_ f) t + r_y (pr_ f) else if j = 4 then pr_ f 3 + r_x (pr_ cr) (pr_ g) (pr_ f) t else pr_ f (j - 1) := by
  unfold jc_round jc_r6 jc_r5
  generalize hF : jc_rx cr f g (2 * t) = F
  have hx : ∀ q, pr_ F q = if q = 7 then r_x (pr_ cr) (pr_ g) (pr_ f) t else pr_ f q := fun q => by rw [← hF]; exact pr_rx cr f g t q
  have em : mo_of (jc_mj F 0) (jc_mj F 1) = ((pr_ F 0 &&& pr_ F 1) ||| (pr_ F 0 &&& pr_ F 2)) ||| (pr_ F 1 &&& pr_ F 2) := by
    show mo_of (((F 0 &&& F 2) ^^^ (F 0 &&& F 4)) ^^^ (F 2 &&& F 4)) (((F 1 &&& F 3) ^^^ (F 1 &&& F 5)) ^^^ (F 3 &&& F 5)) = _
    rw [of_xor, of_xor, of_and, of_and, of_and]
    exact q_maj _ _ _
  have e1 := fun G u w => pr_add G 0 j u w
  rw [show pr_ (jc_addTo (jc_addTo (jc_r4 F) 0 (jc_SA (jc_r4 F 2) (jc_r4 F 3)) (jc_SA (jc_r4 F 3) (jc_r4 F 2))) 0 (jc_mj F 0) (jc_mj F 1)) j = _ from e1 _ _ _]
  have e2 := fun u w => pr_add (jc_r4 F) 0 0 u w
  rw [show pr_ (jc_addTo (jc_r4 F) 0 (jc_SA (jc_r4 F 2) (jc_r4 F 3)) (jc_SA (jc_r4 F 3) (jc_r4 F 2))) 0 = _ from e2 _ _]
  have e3 := fun u w => pr_add (jc_r4 F) 0 j u w
  rw [show pr_ (jc_addTo (jc_r4 F) 0 (jc_SA (jc_r4 F 2) (jc_r4 F 3)) (jc_SA (jc_r4 F 3) (jc_r4 F 2))) j = _ from e3 _ _]
  have eA : mo_of (jc_SA (jc_r4 F 2) (jc_r4 F 3)) (jc_SA (jc_r4 F 3) (jc_r4 F 2)) = (mo_right (pr_ (jc_r4 F) 1) 28 ^^^ mo_right (pr_ (jc_r4 F) 1) 34) ^^^ mo_right (pr_ (jc_r4 F) 1) 39 := of_SA _ _
  rw [eA, em, pr_r4 F 0 (by omega), pr_r4 F 1 (by omega), pr_r4 F j h]
  rw [if_pos rfl, if_pos rfl, if_neg (show ¬ (1 : Nat) = 0 by omega), if_neg (show ¬ (1 : Nat) = 4 by omega)]
  by_cases h0 : j = 0
  · rw [if_pos h0, if_pos h0, hx 7, if_pos rfl, hx 1, hx 0, hx 2, if_neg (show ¬ (1 : Nat) = 7 by omega), if_neg (show ¬ (0 : Nat) = 7 by omega), if_neg (show ¬ (2 : Nat) = 7 by omega)]
    unfold r_y
    exact Int64.add_assoc _ _ _
  · rw [if_neg h0, if_neg h0, if_neg h0, if_neg h0]
    by_cases h4 : j = 4
    · rw [if_pos h4, if_pos h4, hx 3, hx 7, if_neg (show ¬ (3 : Nat) = 7 by omega), if_pos rfl]
    · rw [if_neg h4, if_neg h4, hx (j - 1), if_neg (by omega)]
theorem pr_rounds (cr f g : Nat → Int32) (cu w r : Nat → Int64) (hcu : ∀ t, t < 80 → pr_ cr t = cu t) (hw : ∀ t, t < 80 → pr_ g t = w t) (h0 : ∀ j, j < 8 → pr_ f j = r j) :
    ∀ t, t ≤ 80 → ∀ j, j < 8 → pr_ (jc_rounds cr f g t) j = mo_rds cu w r t (((80 - t) % 8 + j) % 8)
  | 0, _, j, hj => by
    rw [show ((80 - 0) % 8 + j) % 8 = j by omega]
    exact h0 j hj
  | t + 1, ht, j, hj => by
    have ih := pr_rounds cr f g cu w r hcu hw h0 t (by omega)
    show pr_ (jc_round cr (jc_rounds cr f g t) g (2 * t)) j = mo_rd cu w (mo_rds cu w r t) t _
    rw [pr_round cr _ g t j hj]
    generalize jc_rounds cr f g t = F at ih ⊢
    generalize mo_rds cu w r t = V at ih ⊢
    have ha : (80 - (t + 1)) % 8 = ((80 - t) % 8 + 7) % 8 := by omega
    have hx : r_x (pr_ cr) (pr_ g) (pr_ F) t = mo_x cu w V ((80 - t) % 8) t := by
      unfold r_x mo_x
      rw [ih 7 (by omega), ih 4 (by omega), ih 5 (by omega), ih 6 (by omega), hcu t (by omega), hw t (by omega)]
    have hy : r_y (pr_ F) = mo_y V ((80 - t) % 8) := by
      unfold r_y mo_y
      rw [ih 0 (by omega), ih 1 (by omega), ih 2 (by omega), show ((80 - t) % 8 + 0) % 8 = (80 - t) % 8 by omega]
    rw [ha, hx, hy]
    unfold mo_rd
    have hb : (80 - t) % 8 < 8 := Nat.mod_lt _ (by omega)
    generalize (80 - t) % 8 = a at ih hb ⊢
    by_cases h1 : j = 0
    · subst h1
      rw [if_pos rfl, show ((a + 7) % 8 + 0) % 8 = (a + 7) % 8 by omega, pk_uLs]
    · rw [if_neg h1, pk_uLn (show ((a + 7) % 8 + j) % 8 ≠ (a + 7) % 8 by omega)]
      by_cases h4 : j = 4
      · subst h4
        rw [if_pos rfl, show ((a + 7) % 8 + 4) % 8 = (a + 3) % 8 by omega, pk_uLs, ih 3 (by omega)]
      · rw [if_neg h4, pk_uLn (show ((a + 7) % 8 + j) % 8 ≠ (a + 3) % 8 by omega), ih (j - 1) (by omega), show ((a + 7) % 8 + j) % 8 = (a + (j - 1)) % 8 by omega]
theorem pr_adds (f g : Nat → Int32) : ∀ n j, pr_ (jc_adds f g n) j = if j < n then pr_ f j + pr_ g j else pr_ f j
  | 0, j => by rw [if_neg (Nat.not_lt_zero j)]; rfl
  | n + 1, j => by
    show pr_ (jc_addTo (jc_adds f g n) (2 * n) (g (2 * n)) (g (2 * n + 1))) j = _
    rw [pr_add, pr_adds f g n, pr_adds f g n]
    by_cases h : j = n
    · subst h
      rw [if_pos rfl, if_neg (Nat.lt_irrefl _), if_pos (by omega)]; rfl
    · rw [if_neg h]
      by_cases h2 : j < n
      · rw [if_pos h2, if_pos (by omega)]
      · rw [if_neg h2, if_neg (by omega)]
theorem mo_ad_at (st r : Nat → Int64) : ∀ n j, mo_ad st r n j = if j < n then st j + r j else st j
  | 0, j => by rw [if_neg (Nat.not_lt_zero j)]; rfl
  | n + 1, j => by
    show vp_updL (mo_ad st r n) n (mo_ad st r n n + r n) j = _
    by_cases h : j = n
    · subst h
      rw [pk_uLs, if_pos (by omega), mo_ad_at st r j j, if_neg (Nat.lt_irrefl _)]
    · rw [pk_uLn h, mo_ad_at st r n j]
      by_cases h2 : j < n
      · rw [if_pos h2, if_pos (by omega)]
      · rw [if_neg h2, if_neg (by omega)]
theorem mo_cp_at (r st : Nat → Int64) : ∀ n j, j < n → mo_cp r st n j = st j
  | 0, j, h => absurd h (Nat.not_lt_zero j)
  | n + 1, j, h => by
    show vp_updL (mo_cp r st n) n (st n) j = _
    by_cases e : j = n
    · subst e; rw [pk_uLs]
    · rw [pk_uLn e]; exact mo_cp_at r st n j (by omega)
theorem pr_block (cr tot lt sch : Nat → Int32) (cu st ww rr : Nat → Int64) (rs : Nat → Int32) (hcu : ∀ t, t < 80 → pr_ cr t = cu t) (ht : ∀ j, j < 8 → pr_ tot j = st j) (hs : ∀ i, i < 16 → pr_ sch i = mo_be rs i 8) :
    ∀ j, j < 8 → pr_ (jc_mbT cr tot lt sch) j = mo_bS cu st ww rr rs j := by
  intro j hj
  unfold jc_mbT mo_bS
  rw [pr_adds, mo_ad_at, if_pos hj, if_pos hj, ht j hj]
  congr 1
  unfold jc_mbL mo_bR
  have hl : ∀ j, j < 8 → pr_ (va_cpy tot lt 0 0 16) j = mo_cp rr st 8 j := fun j hj => by
    rw [mo_cp_at rr st 8 j hj, ← ht j hj]
    unfold pr_
    rw [pk_cpy_in (by omega) (by omega), pk_cpy_in (by omega) (by omega)]
    congr 2 <;> omega
  have := pr_rounds cr (va_cpy tot lt 0 0 16) (jc_mbS sch) cu (mo_bW ww rs) (mo_cp rr st 8) hcu (fun t h => pr_exts sch ww rs hs 64 t (by omega)) hl 80 (by omega) j hj
  rw [this, show ((80 - 80) % 8 + j) % 8 = j by omega]
