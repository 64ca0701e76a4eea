/-! MATHEMATICS 3: SHA-512's message, byte by byte: words that are pushed against rows of bytes -/
def xb_y (b : Int32) : Prop := ∀ i, 8 ≤ i → bt b i = false
def xb_ps (g : Int32) (rs : Nat → Int32) (s : Nat) : Nat → Int32
  | 0 => g
  | c + 1 => (xb_ps g rs s c <<< ((8 : Int32) &&& 31)) ||| rs (s + c)
theorem xb_ps_congr (g : Int32) (rs rs' : Nat → Int32) (s : Nat) : ∀ c, (∀ j, j < c → rs (s + j) = rs' (s + j)) → xb_ps g rs s c = xb_ps g rs' s c
  | 0, _ => rfl
  | c + 1, h => by
    show (xb_ps g rs s c <<< ((8 : Int32) &&& 31)) ||| rs (s + c) = (xb_ps g rs' s c <<< ((8 : Int32) &&& 31)) ||| rs' (s + c)
    rw [xb_ps_congr g rs rs' s c (fun j hj => h j (by omega)), h c (by omega)]
theorem xb_ps_bit (g : Int32) (rs : Nat → Int32) (s : Nat) : ∀ c, (∀ j, j < c → xb_y (rs (s + j))) → ∀ i, i < 32 → i < 8 * c → bt (xb_ps g rs s c) i = bt (rs (s + (c - 1 - i / 8))) (i % 8)
  | 0, _, i, _, h => absurd h (by omega)
  | c + 1, hy, i, hi, h => by
    show bt ((xb_ps g rs s c <<< ((8 : Int32) &&& 31)) ||| rs (s + c)) i = _
    rw [b_or, b_shl8 _ hi]
    by_cases h8 : i < 8
    · rw [decide_eq_false (show ¬ 8 ≤ i by omega), show c + 1 - 1 - i / 8 = c by omega, show i % 8 = i by omega]
      simp
    · rw [decide_eq_true (show 8 ≤ i by omega), hy c (by omega) i (by omega), xb_ps_bit g rs s c (fun j hj => hy j (by omega)) (i - 8) (by omega) (by omega), show c - 1 - (i - 8) / 8 = c + 1 - 1 - i / 8 by omega, show (i - 8) % 8 = i % 8 by omega]
      simp
theorem mo_be_congr (rs rs' : Nat → Int32) (t : Nat) : ∀ k, (∀ j, j < k → rs (8 * t + j) = rs' (8 * t + j)) → mo_be rs t k = mo_be rs' t k
  | 0, _ => rfl
  | k + 1, h => by
    show xm_l (mo_be rs t k) 8 ||| Int32.toInt64 (rs (8 * t + k)) = xm_l (mo_be rs' t k) 8 ||| Int32.toInt64 (rs' (8 * t + k))
    rw [mo_be_congr rs rs' t k (fun j hj => h j (by omega)), h k (by omega)]
theorem q_byte (b : Int32) (hb : xb_y b) {i : Nat} (hi : i < 64) : bq b.toInt64 i = bt b i := by
  rw [q_i2l b hi]
  by_cases h : i < 32
  · rw [if_pos h]
  · rw [if_neg h, hb 31 (by omega), hb i (by omega)]
theorem mo_be_bit (rs : Nat → Int32) (t : Nat) : ∀ k, (∀ j, j < k → xb_y (rs (8 * t + j))) → ∀ i, i < 64 → bq (mo_be rs t k) i = if i < 8 * k then bt (rs (8 * t + (k - 1 - i / 8))) (i % 8) else false
  | 0, _, i, hi => by
    rw [if_neg (by omega)]
    exact BitVec.getLsbD_zero
  | k + 1, hy, i, hi => by
    show bq (xm_l (mo_be rs t k) (nI 8) ||| Int32.toInt64 (rs (8 * t + k))) i = _
    rw [q_or, q_shl 8 (by omega) _ hi, q_byte _ (hy k (by omega)) hi]
    by_cases h8 : i < 8
    · rw [decide_eq_false (show ¬ 8 ≤ i by omega), if_pos (by omega), show k + 1 - 1 - i / 8 = k by omega, show i % 8 = i by omega]
      simp
    · rw [decide_eq_true (show 8 ≤ i by omega), hy k (by omega) i (by omega), mo_be_bit rs t k (fun j hj => hy j (by omega)) (i - 8) (by omega)]
      by_cases h : i < 8 * (k + 1)
      · rw [if_pos h, if_pos (by omega), show k - 1 - (i - 8) / 8 = k + 1 - 1 - i / 8 by omega, show (i - 8) % 8 = i % 8 by omega]
        simp
      · rw [if_neg h, if_neg (by omega)]
        simp
theorem pr_word (sch rs : Nat → Int32) (t : Nat) (hy : ∀ j, j < 8 → xb_y (rs (8 * t + j))) (g g' : Int32) (h1 : sch (2 * t) = xb_ps g rs (8 * t) 4) (h2 : sch (2 * t + 1) = xb_ps g' rs (8 * t + 4) 4) : pr_ sch t = mo_be rs t 8 := by
  refine q_ext (fun i hi => ?_)
  unfold pr_
  rw [q_of _ _ hi, mo_be_bit rs t 8 hy i hi, if_pos (show i < 8 * 8 by omega)]
  by_cases h : i < 32
  · rw [if_pos h, h2, xb_ps_bit g' rs (8 * t + 4) 4 (fun j hj => by have := hy (4 + j) (by omega); rw [← Nat.add_assoc] at this; exact this) i h (by omega), show 8 * t + 4 + (4 - 1 - i / 8) = 8 * t + (8 - 1 - i / 8) by omega]
  · rw [if_neg h, h1, xb_ps_bit g rs (8 * t) 4 (fun j hj => hy j (by omega)) (i - 32) (by omega) (by omega), show 4 - 1 - (i - 32) / 8 = 8 - 1 - i / 8 by omega, show (i - 32) % 8 = i % 8 by omega]
def xr_B (sch rs : Nat → Int32) (k : Nat) : Prop := (∀ j, j < k → xb_y (rs j)) ∧ ∀ w, w < 32 → ∃ g, sch w = xb_ps g rs (4 * w) (min 4 (k - 4 * w))
theorem xr_B0 (sch rs : Nat → Int32) : xr_B sch rs 0 := ⟨fun j h => absurd h (Nat.not_lt_zero j), fun w _ => ⟨sch w, by rw [show min 4 (0 - 4 * w) = 0 by omega]; rfl⟩⟩
theorem xr_Bs (sch rs : Nat → Int32) (k : Nat) (b : Int32) (h : xr_B sch rs k) (hk : k < 128) (hb : xb_y b) : xr_B (jc_put sch k b) (upd rs k b) (k + 1) := by
  refine ⟨fun j hj => ?_, fun w hw => ?_⟩
  · by_cases e : j = k
    · subst e; rw [pk_us]; exact hb
    · rw [pk_un e]; exact h.1 j (by omega)
  · obtain ⟨g, hg⟩ := h.2 w hw
    refine ⟨g, ?_⟩
    unfold jc_put
    by_cases e : w = k / 4
    · subst e
      rw [pk_us, hg, show min 4 (k + 1 - 4 * (k / 4)) = min 4 (k - 4 * (k / 4)) + 1 by omega]
      show _ = (xb_ps g (upd rs k b) (4 * (k / 4)) (min 4 (k - 4 * (k / 4))) <<< ((8 : Int32) &&& 31)) ||| (upd rs k b) (4 * (k / 4) + min 4 (k - 4 * (k / 4)))
      rw [show 4 * (k / 4) + min 4 (k - 4 * (k / 4)) = k by omega, pk_us, xb_ps_congr g rs (upd rs k b) _ _ (fun j hj => (pk_un (by omega)).symm)]
    · rw [pk_un e, hg, show min 4 (k + 1 - 4 * w) = min 4 (k - 4 * w) by omega, xb_ps_congr g rs (upd rs k b) _ _ (fun j hj => (pk_un (by omega)).symm)]
theorem xr_Bw (sch rs : Nat → Int32) (k : Nat) (h : xr_B sch rs k) (t : Nat) (ht : 8 * t + 8 ≤ k) (hk : k ≤ 128) : pr_ sch t = mo_be rs t 8 := by
  obtain ⟨g, h1⟩ := h.2 (2 * t) (by omega)
  obtain ⟨g', h2⟩ := h.2 (2 * t + 1) (by omega)
  rw [show min 4 (k - 4 * (2 * t)) = 4 by omega, show 4 * (2 * t) = 8 * t by omega] at h1
  rw [show min 4 (k - 4 * (2 * t + 1)) = 4 by omega, show 4 * (2 * t + 1) = 8 * t + 4 by omega] at h2
  exact pr_word sch rs t (fun j hj => h.1 _ (by omega)) g g' h1 h2
/-- the class's digest and the reference's, while it is open -/
def xr_S (S : xs_S) (M : xm_S) : Prop := S.2.2.2 = M.2.2.2.2 ∧ M.2.2.2.2 < 128 ∧ (∀ j, j < 8 → pr_ S.1 j = M.1 j) ∧ xr_B S.2.2.1 M.2.2.2.1 M.2.2.2.2
theorem xr_take (cr : Nat → Int32) (cu : Nat → Int64) (hcu : ∀ t, t < 80 → pr_ cr t = cu t) (S : xs_S) (M : xm_S) (b : Int32) (hb : xb_y b) (h : xr_S S M) : xr_S (jc_take cr S b) (mo_take cu M b) := by
  obtain ⟨h1, h2, h3, h4⟩ := h
  have hB := xr_Bs _ _ _ b h4 h2 hb
  by_cases c : M.2.2.2.2 + 1 = 128
  · rw [show mo_take cu M b = _ from if_pos c, show jc_take cr S b = _ from if_pos (by rw [h1]; exact c)]
    refine ⟨rfl, by show 0 < 128; omega, ?_, xr_B0 _ _⟩
    rw [h1]
    exact pr_block cr _ _ _ cu _ _ _ _ hcu h3 (fun i hi => xr_Bw _ _ _ hB i (by omega) (by omega))
  · rw [show mo_take cu M b = _ from if_neg c, show jc_take cr S b = _ from if_neg (by rw [h1]; exact c)]
    refine ⟨by show S.2.2.2 + 1 = M.2.2.2.2 + 1; rw [h1], by show M.2.2.2.2 + 1 < 128; omega, h3, ?_⟩
    show xr_B (jc_put S.2.2.1 S.2.2.2 b) _ _
    rw [h1]
    exact hB
theorem xb_y0 : xb_y 0 := fun i _ => b_0 i
theorem xb_y128 : xb_y 128 := fun i h => by
  by_cases h2 : i < 32
  · exact (by decide +kernel : ∀ i, i < 32 → 8 ≤ i → bt 128 i = false) i h2 h
  · exact b_big (by omega)
theorem xb_y255 (x : Int32) : xb_y (x &&& 255) := fun i h => by rw [b_and, b_255, decide_eq_false (by omega)]; simp
theorem xb_yb (b : Int32) (h0 : ¬ b < 0) (h1 : b ≤ 255) : xb_y b := by
  obtain ⟨j, hj, rfl⟩ := nI_of2 (M := 255) (n := 255) (by decide) h0 h1
  intro i hi
  by_cases h2 : i < 32
  · have e : nI j = nI j &&& 255 := by
      have := pk_andN (show j < 2 ^ 32 by omega) (m := 255) 8 (by decide)
      rw [this, Nat.mod_eq_of_lt (show j < 2 ^ 8 by omega)]
    rw [e]
    exact xb_y255 _ i hi
  · exact b_big (by omega)
theorem xr_ups (cr : Nat → Int32) (cu : Nat → Int64) (hcu : ∀ t, t < 80 → pr_ cr t = cu t) (S : xs_S) (M : xm_S) (b st : Int32) (h : xr_S S M) : ∀ n, xr_S (jc_ups cr S b st n) (mo_ups cu M b st n)
  | 0 => h
  | n + 1 => xr_take cr cu hcu _ _ _ (xb_y255 _) (xr_ups cr cu hcu S M b st h n)
theorem xr_pads (cr : Nat → Int32) (cu : Nat → Int64) (hcu : ∀ t, t < 80 → pr_ cr t = cu t) (S : xs_S) (M : xm_S) (h : xr_S S M) : ∀ n, xr_S (jc_pads cr S n) (mo_pads cu M n)
  | 0 => h
  | n + 1 => xr_take cr cu hcu _ _ _ xb_y0 (xr_pads cr cu hcu S M h n)
-- the length
def mo_lr (rs : Nat → Int32) (ln : Int32) : Nat → (Nat → Int32)
  | 0 => rs
  | k + 1 => upd (mo_lr rs ln k) (112 + k) (if k < 8 then 0 else mo_lb ln k)
theorem mo_lr_at (rs : Nat → Int32) (ln : Int32) : ∀ k j, mo_lr rs ln k j = if 112 ≤ j ∧ j < 112 + k then (if j - 112 < 8 then 0 else mo_lb ln (j - 112)) else rs j
  | 0, j => by rw [if_neg (by omega)]; rfl
  | k + 1, j => by
    show upd (mo_lr rs ln k) (112 + k) (if k < 8 then 0 else mo_lb ln k) j = _
    by_cases h : j = 112 + k
    · subst h
      rw [pk_us, if_pos (show 112 ≤ 112 + k ∧ 112 + k < 112 + (k + 1) by omega), show 112 + k - 112 = k by omega]
    · rw [pk_un h, mo_lr_at rs ln k j]
      by_cases h2 : 112 ≤ j ∧ j < 112 + k
      · rw [if_pos h2, if_pos (show 112 ≤ j ∧ j < 112 + (k + 1) by omega)]
      · rw [if_neg h2, if_neg (show ¬ (112 ≤ j ∧ j < 112 + (k + 1)) by omega)]
theorem mo_lens_at (cu : Nat → Int64) (M : xm_S) (ln : Int32) (h : M.2.2.2.2 = 112) : ∀ k, k ≤ 15 → mo_lens cu M ln k = (M.1, M.2.1, M.2.2.1, mo_lr M.2.2.2.1 ln k, 112 + k)
  | 0, _ => by rw [← h]; rfl
  | k + 1, hk => by
    show mo_take cu (mo_lens cu M ln k) (if k < 8 then 0 else mo_lb ln k) = _
    rw [mo_lens_at cu M ln h k (by omega)]
    exact if_neg (by show ¬ (112 + k + 1 = 128); omega)
theorem mo_lens_16 (cu : Nat → Int64) (M : xm_S) (ln : Int32) (h : M.2.2.2.2 = 112) : (mo_lens cu M ln 16).1 = mo_bS cu M.1 M.2.1 M.2.2.1 (mo_lr M.2.2.2.1 ln 16) := by
  show (mo_take cu (mo_lens cu M ln 15) (if 15 < 8 then 0 else mo_lb ln 15)).1 = _
  rw [mo_lens_at cu M ln h 15 (by omega), show mo_take cu (M.1, M.2.1, M.2.2.1, mo_lr M.2.2.2.1 ln 15, 112 + 15) (if 15 < 8 then 0 else mo_lb ln 15) = _ from if_pos rfl]
  rfl
theorem b_lb (ln : Int32) (m : Nat) (hm : m < 8) {i : Nat} (hi : i < 8) : bt (mo_lb ln (15 - m)) i = bq ((8 : Int64) * Int32.toInt64 ln) (8 * m + i) := by
  unfold mo_lb
  rw [b_l2i _ (by omega), q_and, show 120 - 8 * (15 - m) = 8 * m by omega, q_sshr (8 * m) (by omega) _ (by omega), if_pos (by omega), (by decide +kernel : ∀ i, i < 8 → bq 255 i = true) i hi]
  simp
theorem xb_ylb (ln : Int32) (k : Nat) : xb_y (mo_lb ln k) := fun i h => by
  by_cases h2 : i < 32
  · unfold mo_lb
    rw [b_l2i _ h2, q_and, (by decide +kernel : ∀ i, i < 32 → 8 ≤ i → bq 255 i = false) i h2 h]
    simp
  · exact b_big (by omega)
theorem len_word (c : Nat) (hc : c < 2 ^ 28) : mo_of (xj_u (nI c) 29) ((nI c) <<< ((3 : Int32) &&& 31)) = (8 : Int64) * Int32.toInt64 (nI c) := by
  have e1 : xj_u (nI c) 29 = nI 0 := by
    have := pk_ushrN (n := c) (by omega) 29 29 (by decide)
    rw [Nat.div_eq_of_lt (show c < 2 ^ 29 by omega)] at this
    exact this
  have e2 : (nI c) <<< ((3 : Int32) &&& 31) = nI (c * 2 ^ 3) := pk_shlN _ 3 (by decide) (by omega)
  rw [e1, e2, nI_l (by omega)]
  show _ = lN 8 * lN c
  rw [lN_mul]
  apply Int64.toBitVec_inj.mp
  apply BitVec.eq_of_toNat_eq
  rw [of_nat, pk_tn (by omega), pk_tn (by omega)]
  show _ = (8 * c) % 2 ^ 64
  omega
theorem pr_len (sch rs : Nat → Int32) (c : Nat) (hc : c < 2 ^ 28) (h : xr_B sch rs 112) (t : Nat) (ht : t < 16) : pr_ (jc_len sch (nI c)) t = mo_be (mo_lr rs (nI c) 16) t 8 := by
  have hn : ∀ w, w < 28 → jc_len sch (nI c) w = sch w := fun w hw => by
    unfold jc_len
    rw [pk_un (by omega), pk_un (by omega), pk_un (by omega), pk_un (by omega)]
  by_cases h14 : t < 14
  · have e : pr_ (jc_len sch (nI c)) t = pr_ sch t := by
      unfold pr_
      rw [hn _ (by omega), hn _ (by omega)]
    rw [e, xr_Bw sch rs 112 h t (by omega) (by omega)]
    exact mo_be_congr rs _ t 8 (fun j hj => by rw [mo_lr_at, if_neg (by omega)])
  · refine q_ext (fun i hi => ?_)
    have hy : ∀ j, j < 8 → xb_y (mo_lr rs (nI c) 16 (8 * t + j)) := fun j hj => by
      rw [mo_lr_at, if_pos (by omega)]
      by_cases h8 : 8 * t + j - 112 < 8
      · rw [if_pos h8]; exact xb_y0
      · rw [if_neg h8]; exact xb_ylb _ _
    rw [mo_be_bit _ t 8 hy i hi, if_pos (by omega), mo_lr_at, if_pos (by omega)]
    by_cases h15 : t = 14
    · subst h15
      rw [if_pos (by omega), b_0]
      have e : pr_ (jc_len sch (nI c)) 14 = mo_of 0 0 := by
        unfold pr_ jc_len
        show mo_of ((upd (upd (upd (upd sch 28 0) 29 0) 30 _) 31 _) 28) ((upd (upd (upd (upd sch 28 0) 29 0) 30 _) 31 _) 29) = _
        rw [pk_un (by omega), pk_un (by omega), pk_un (by omega), pk_us, pk_un (by omega), pk_un (by omega), pk_us]
      rw [e, q_of _ _ hi]
      by_cases h : i < 32
      · rw [if_pos h, b_0]
      · rw [if_neg h, b_0]
    · obtain rfl : t = 15 := by omega
      rw [if_neg (by omega), show 8 * 15 + (8 - 1 - i / 8) - 112 = 15 - i / 8 by omega, b_lb _ (i / 8) (by omega) (Nat.mod_lt _ (by omega)), show 8 * (i / 8) + i % 8 = i by omega, ← len_word c hc]
      have e : pr_ (jc_len sch (nI c)) 15 = mo_of (xj_u (nI c) 29) ((nI c) <<< ((3 : Int32) &&& 31)) := by
        unfold pr_ jc_len
        show mo_of ((upd (upd (upd (upd sch 28 0) 29 0) 30 _) 31 _) 30) ((upd (upd (upd (upd sch 28 0) 29 0) 30 _) 31 _) 31) = _
        rw [pk_un (by omega), pk_us, pk_us]
      rw [e]
theorem jc_z_at (c : Nat) (hc : c < 2 ^ 28) : jc_z (nI c) = (239 - c % 128) % 128 := by
  unfold jc_z
  have e : (111 - nI c).toBitVec.toNat = (4294967296 - c + 111) % 4294967296 := by
    rw [Int32.toBitVec_sub, BitVec.toNat_sub, pk_tn (show c < 2 ^ 32 by omega)]
    rfl
  rw [e]
  omega
theorem xr_end (cr : Nat → Int32) (cu : Nat → Int64) (hcu : ∀ t, t < 80 → pr_ cr t = cu t) (S : xs_S) (M : xm_S) (c : Nat) (hc : c < 2 ^ 28) (hck : M.2.2.2.2 = c % 128) (h : xr_S S M) : ∀ j, j < 8 → pr_ (jc_end cr S (nI c)).1 j = (mo_end cu M (nI c)).1 j := by
  have h1 := xr_take cr cu hcu S M 128 xb_y128 h
  have hk1 : (mo_take cu M 128).2.2.2.2 = (M.2.2.2.2 + 1) % 128 := mo_take_k cu M 128 h.2.1
  have hz : jc_z (nI c) = (240 - (mo_take cu M 128).2.2.2.2) % 128 := by rw [jc_z_at c hc, hk1, hck]; omega
  have h2 := xr_pads cr cu hcu _ _ h1 (jc_z (nI c))
  have hk2 : (mo_pads cu (mo_take cu M 128) (jc_z (nI c))).2.2.2.2 = 112 := by
    rw [mo_pads_k cu _ h1.2.1, hz]
    have := h1.2.1
    omega
  unfold mo_end mo_endS
  rw [← hz, mo_lens_16 cu _ _ hk2]
  unfold jc_end jc_endS
  obtain ⟨-, -, h3, h4⟩ := h2
  rw [hk2] at h4
  exact pr_block cr _ _ _ cu _ _ _ _ hcu h3 (fun i hi => pr_len _ _ c hc h4 i hi)
