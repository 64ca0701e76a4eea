/-! MATHEMATICS 4: SipHash -/
theorem pr_left (v : Nat → Int32) (j i : Nat) (n : Int32) (h : (-n) &&& 63 = (64 - n) &&& 63) : pr_ (jc_left v (2 * j) n) i = if i = j then mo_left (pr_ v j) n else pr_ v i := by
  unfold jc_left
  rw [pr_put]
  by_cases e : i = j
  · rw [if_pos e, if_pos e]
    exact of_turned _ _ _ _ h
  · rw [if_neg e, if_neg e]
theorem pr_xor2 (v : Nat → Int32) (b a i : Nat) (hab : a ≠ b) : pr_ (jc_xor2 v (2 * b) (2 * a)) i = if i = b then pr_ v b ^^^ pr_ v a else pr_ v i := by
  unfold jc_xor2
  rw [pr_put]
  by_cases e : i = b
  · rw [if_pos e, if_pos e, pk_un (show 2 * b + 1 ≠ 2 * b by omega), pk_un (show 2 * a + 1 ≠ 2 * b by omega)]
    exact of_xor _ _ _ _
  · rw [if_neg e, if_neg e]
theorem pr_pair (v : Nat → Int32) (a b i : Nat) (n : Int32) (hab : a ≠ b) (h : (-n) &&& 63 = (64 - n) &&& 63) : pr_ (jc_pair v (2 * a) (2 * b) n) i = if i = b then mo_left (pr_ v b) n ^^^ (pr_ v a + pr_ v b) else if i = a then pr_ v a + pr_ v b else pr_ v i := by
  unfold jc_pair jc_pair1
  generalize eG : jc_addTo v (2 * a) (v (2 * b)) (v (2 * b + 1)) = G
  have e1 : ∀ q, pr_ G q = if q = a then pr_ v a + pr_ v b else pr_ v q := fun q => by rw [← eG]; exact pr_add v a q _ _
  generalize eG2 : jc_left G (2 * b) n = G2
  have e2 : ∀ q, pr_ G2 q = if q = b then mo_left (pr_ G b) n else pr_ G q := fun q => by rw [← eG2]; exact pr_left G b q n h
  rw [pr_xor2 G2 b a i hab]
  by_cases e : i = b
  · rw [if_pos e, if_pos e, e2 b, if_pos rfl, e2 a, if_neg hab, e1 b, if_neg (Ne.symm hab), e1 a, if_pos rfl]
  · rw [if_neg e, if_neg e, e2 i, if_neg e, e1 i]
theorem pr_sround (v : Nat → Int32) (st : Nat → Int64) (h : ∀ j, j < 4 → pr_ v j = st j) : ∀ j, j < 4 → pr_ (jc_sround v) j = mo_sr st j := by
  have h0 := h 0 (by omega)
  have h1 := h 1 (by omega)
  have h2 := h 2 (by omega)
  have h3 := h 3 (by omega)
  have d13 : (-(13 : Int32)) &&& 63 = (64 - 13) &&& 63 := by decide
  have d16 : (-(16 : Int32)) &&& 63 = (64 - 16) &&& 63 := by decide
  have d17 : (-(17 : Int32)) &&& 63 = (64 - 17) &&& 63 := by decide
  have d21 : (-(21 : Int32)) &&& 63 = (64 - 21) &&& 63 := by decide
  have d32 : (-(32 : Int32)) &&& 63 = (64 - 32) &&& 63 := by decide
  intro j hj
  have a1 := fun i => pr_pair v 0 1 i 13 (by omega) d13
  have a2 := fun F i => pr_left F 0 i 32 d32
  have a3 := fun F i => pr_pair F 2 3 i 16 (by omega) d16
  have a4 := fun F i => pr_pair F 0 3 i 21 (by omega) d21
  have a5 := fun F i => pr_pair F 2 1 i 17 (by omega) d17
  have a6 := fun F i => pr_left F 2 i 32 d32
  unfold jc_sround
  generalize e1 : jc_pair v 0 2 13 = F1
  have b1 : ∀ i, pr_ F1 i = _ := fun i => e1 ▸ a1 i
  generalize e2 : jc_left F1 0 32 = F2
  have b2 : ∀ i, pr_ F2 i = _ := fun i => e2 ▸ a2 F1 i
  generalize e3 : jc_pair F2 4 6 16 = F3
  have b3 : ∀ i, pr_ F3 i = _ := fun i => e3 ▸ a3 F2 i
  generalize e4 : jc_pair F3 0 6 21 = F4
  have b4 : ∀ i, pr_ F4 i = _ := fun i => e4 ▸ a4 F3 i
  generalize e5 : jc_pair F4 4 2 17 = F5
  have b5 : ∀ i, pr_ F5 i = _ := fun i => e5 ▸ a5 F4 i
  have b6 : ∀ i, pr_ (jc_left F5 4 32) i = _ := fun i => a6 F5 i
  unfold mo_sr mo_q8 mo_q7 mo_q6 mo_q5 mo_q4 mo_q3 mo_q2 mo_q1
  rcases (show j = 0 ∨ j = 1 ∨ j = 2 ∨ j = 3 by omega) with rfl | rfl | rfl | rfl
  · simp [b6, b5, b4, b3, b2, b1, h0, h1, h2, h3, vp_updL]
  · simp [b6, b5, b4, b3, b2, b1, h0, h1, h2, h3, vp_updL]
  · simp [b6, b5, b4, b3, b2, b1, h0, h1, h2, h3, vp_updL]
  · simp [b6, b5, b4, b3, b2, b1, h0, h1, h2, h3, vp_updL]
theorem pr_srounds (v : Nat → Int32) (st : Nat → Int64) (h : ∀ j, j < 4 → pr_ v j = st j) : ∀ n j, j < 4 → pr_ (jc_srounds v n) j = mo_srs st n j
  | 0 => h
  | n + 1 => pr_sround _ _ (pr_srounds v st h n)
theorem pr_gx (v : Nat → Int32) (j i : Nat) (u w : Int32) : pr_ (jc_gx v (2 * j) u w) i = if i = j then pr_ v j ^^^ mo_of u w else pr_ v i := by
  unfold jc_gx
  rw [pr_put]
  by_cases e : i = j
  · rw [if_pos e, if_pos e, pk_un (show 2 * j + 1 ≠ 2 * j by omega)]
    exact of_xor _ _ _ _
  · rw [if_neg e, if_neg e]
theorem pr_group (v : Nat → Int32) (st : Nat → Int64) (u w : Int32) (rs : Nat → Int32) (hm : mo_of u w = mo_le rs 8) (h : ∀ j, j < 4 → pr_ v j = st j) : ∀ j, j < 4 → pr_ (jc_group v u w) j = mo_sb st rs j := by
  have g1 : ∀ j, j < 4 → pr_ (jc_gx v 6 u w) j = vp_updL st 3 (st 3 ^^^ mo_le rs 8) j := fun j hj => by
    rw [show pr_ (jc_gx v 6 u w) j = _ from pr_gx v 3 j u w, hm]
    by_cases e : j = 3
    · subst e; rw [if_pos rfl, pk_uLs, h 3 (by omega)]
    · rw [if_neg e, pk_uLn e, h j hj]
  have g2 := pr_sround _ _ (pr_sround _ _ g1)
  intro j hj
  unfold jc_group mo_sb
  rw [show pr_ (jc_gx (jc_sround (jc_sround (jc_gx v 6 u w))) 0 u w) j = _ from pr_gx _ 0 j u w, hm]
  by_cases e : j = 0
  · subst e; rw [if_pos rfl, pk_uLs, g2 0 (by omega)]; rfl
  · rw [if_neg e, pk_uLn e, g2 j hj]; rfl
-- the message
theorem q_gr (u w b : Int32) {i : Nat} (hi : i < 64) : bq (mo_of (jc_gh u b) (jc_gl u w)) i = if i < 56 then bq (mo_of u w) (8 + i) else bt b (i - 56) := by
  rw [q_of _ _ hi]
  by_cases h : i < 32
  · rw [if_pos h, if_pos (by omega)]
    rw [show jc_gl u w = jc_moved u w (nI 8) from tu_moved u w 8 (by decide) (by decide)]
    rw [b_moved u w 8 (by omega) h, q_of u w (by omega)]
    by_cases h2 : i + 8 < 32
    · rw [if_pos h2, if_pos (by omega), Nat.add_comm]
    · rw [if_neg h2, if_neg (by omega), Nat.add_comm 8 i]
  · rw [if_neg h]
    show bt ((u.toUInt32 >>> ((nI 8).toUInt32 &&& Int32.toUInt32 31)).toInt32 ||| (b <<< ((24 : Int32) &&& 31))) (i - 32) = _
    rw [b_or, b_ushr 8 (by omega), b_shl24 b (by omega)]
    by_cases h2 : i < 56
    · rw [if_pos h2, decide_eq_false (show ¬ 24 ≤ i - 32 by omega), q_of u w (by omega), if_neg (by omega), show 8 + (i - 32) = 8 + i - 32 by omega]; simp
    · rw [if_neg h2, decide_eq_true (show 24 ≤ i - 32 by omega), b_big (show 32 ≤ 8 + (i - 32) by omega), show i - 32 - 24 = i - 56 by omega]; simp
def xr_G (u w : Int32) (rs : Nat → Int32) (k : Nat) : Prop := (∀ j, j < k → xb_y (rs j)) ∧ ∀ j, j < k → ∀ i, i < 8 → bq (mo_of u w) (64 - 8 * k + 8 * j + i) = bt (rs j) i
theorem xr_Gs (u w : Int32) (rs : Nat → Int32) (k : Nat) (b : Int32) (hk : k < 8) (hb : xb_y b) (h : xr_G u w rs k) : xr_G (jc_gh u b) (jc_gl u w) (upd rs k b) (k + 1) := by
  refine ⟨fun j hj => ?_, fun j hj i hi => ?_⟩
  · by_cases e : j = k
    · subst e; rw [pk_us]; exact hb
    · rw [pk_un e]; exact h.1 j (by omega)
  · rw [q_gr _ _ _ (by omega)]
    by_cases e : j = k
    · subst e
      rw [if_neg (by omega), pk_us]; congr 1; omega
    · rw [if_pos (by omega), pk_un e, ← h.2 j (by omega) i hi]; congr 1; omega
theorem mo_le_bit (rs : Nat → Int32) : ∀ k, k ≤ 8 → (∀ j, j < 8 → xb_y (rs j)) → ∀ i, i < 64 → bq (mo_le rs k) i = if i < 8 * k then bt (rs (8 - k + i / 8)) (i % 8) else false
  | 0, _, _, i, _ => by
    rw [if_neg (by omega)]
    exact BitVec.getLsbD_zero
  | k + 1, hk, hy, i, hi => by
    show bq (xm_l (mo_le rs k) (nI 8) ||| Int32.toInt64 (rs (7 - k))) i = _
    rw [q_or, q_shl 8 (by omega) _ hi, q_byte _ (hy _ (by omega)) hi]
    by_cases h8 : i < 8
    · rw [decide_eq_false (show ¬ 8 ≤ i by omega), if_pos (by omega), show 8 - (k + 1) + i / 8 = 7 - k by omega, show i % 8 = i by omega]; simp
    · rw [decide_eq_true (show 8 ≤ i by omega), hy _ (by omega) i (by omega), mo_le_bit rs k (by omega) hy (i - 8) (by omega)]
      by_cases h : i < 8 * (k + 1)
      · rw [if_pos h, if_pos (by omega), show 8 - k + (i - 8) / 8 = 8 - (k + 1) + i / 8 by omega, show (i - 8) % 8 = i % 8 by omega]; simp
      · rw [if_neg h, if_neg (by omega)]; simp
theorem xr_G8 (u w : Int32) (rs : Nat → Int32) (h : xr_G u w rs 8) : mo_of u w = mo_le rs 8 := q_ext (fun i hi => by
  rw [mo_le_bit rs 8 (by omega) h.1 i hi, if_pos (by omega)]
  have := h.2 (i / 8) (by omega) (i % 8) (Nat.mod_lt _ (by omega))
  rw [show 64 - 8 * 8 + 8 * (i / 8) + i % 8 = i by omega] at this
  rw [this, show 8 - 8 + i / 8 = i / 8 by omega])
def xr_P (S : xp_S) (M : xq_S) : Prop := S.2.2.2 = M.2.2 ∧ M.2.2 < 8 ∧ (∀ j, j < 4 → pr_ S.1 j = M.1 j) ∧ xr_G S.2.1 S.2.2.1 M.2.1 M.2.2
theorem xr_ptake (S : xp_S) (M : xq_S) (b : Int32) (hb : xb_y b) (h : xr_P S M) : xr_P (jc_ptake S b) (mo_ptake M b) := by
  obtain ⟨h1, h2, h3, h4⟩ := h
  have hG := xr_Gs _ _ _ _ b h2 hb h4
  by_cases c : M.2.2 + 1 = 8
  · rw [show mo_ptake M b = _ from if_pos c, show jc_ptake S b = _ from if_pos (by rw [h1]; exact c)]
    rw [c] at hG
    exact ⟨rfl, by show 0 < 8; omega, pr_group _ _ _ _ _ (xr_G8 _ _ _ hG) h3, fun j hj => absurd hj (Nat.not_lt_zero j), fun j hj => absurd hj (Nat.not_lt_zero j)⟩
  · rw [show mo_ptake M b = _ from if_neg c, show jc_ptake S b = _ from if_neg (by rw [h1]; exact c)]
    exact ⟨by show S.2.2.2 + 1 = M.2.2 + 1; rw [h1], by show M.2.2 + 1 < 8; omega, h3, hG⟩
theorem xr_pups (S : xp_S) (M : xq_S) (b st : Int32) (h : xr_P S M) : ∀ n, xr_P (jc_pups S b st n) (mo_pups M b st n)
  | 0 => h
  | n + 1 => xr_ptake _ _ _ (xb_y255 _) (xr_pups S M b st h n)
theorem xr_ppads (S : xp_S) (M : xq_S) (h : xr_P S M) : ∀ n, xr_P (jc_ppads S n) (mo_ppads M n)
  | 0 => h
  | n + 1 => xr_ptake _ _ _ xb_y0 (xr_ppads S M h n)
theorem jc_pz_at (c : Nat) (hc : c < 2 ^ 28) : jc_pz (nI c) = 7 - c % 8 := by
  unfold jc_pz
  have e : (7 - nI c).toBitVec.toNat = (4294967296 - c + 7) % 4294967296 := by
    rw [Int32.toBitVec_sub, BitVec.toNat_sub, pk_tn (show c < 2 ^ 32 by omega)]
    rfl
  rw [e]
  omega
theorem pr_pword (v : Nat → Int32) : mo_of (jc_pword v 0) (jc_pword v 1) = ((pr_ v 0 ^^^ pr_ v 1) ^^^ pr_ v 2) ^^^ pr_ v 3 := by
  show mo_of (((v 0 ^^^ v 2) ^^^ v 4) ^^^ v 6) (((v 1 ^^^ v 3) ^^^ v 5) ^^^ v 7) = _
  rw [of_xor, of_xor, of_xor]
  rfl
theorem xr_pend (S : xp_S) (M : xq_S) (c : Nat) (hc : c < 2 ^ 28) (hck : M.2.2 = c % 8) (h : xr_P S M) : mo_of (jc_pword (jc_pend S (nI c)).1 0) (jc_pword (jc_pend S (nI c)).1 1) = (mo_pend M (nI c)).1 0 := by
  have hz : jc_pz (nI c) = 7 - M.2.2 := by rw [jc_pz_at c hc, hck]
  have h1 := xr_ptake _ _ (nI c &&& 255) (xb_y255 _) (xr_ppads S M h (jc_pz (nI c)))
  obtain ⟨-, -, h3, -⟩ := h1
  rw [pr_pword]
  unfold jc_pend jc_pendS mo_pend mo_pendS
  rw [← hz]
  generalize (jc_ptake (jc_ppads S (jc_pz (nI c))) (nI c &&& 255)).1 = v at h3 ⊢
  generalize (mo_ptake (mo_ppads M (jc_pz (nI c))) (nI c &&& 255)).1 = st at h3 ⊢
  have g1 : ∀ j, j < 4 → pr_ (upd v 5 (v 5 ^^^ 255)) j = vp_updL st 2 (st 2 ^^^ 255) j := fun j hj => by
    by_cases e : j = 2
    · subst e
      rw [pk_uLs, ← h3 2 (by omega)]
      unfold pr_
      show mo_of ((upd v 5 (v 5 ^^^ 255)) 4) ((upd v 5 (v 5 ^^^ 255)) 5) = mo_of (v 4) (v 5) ^^^ 255
      rw [pk_un (by omega), pk_us, show v 4 = v 4 ^^^ 0 from (Int32.xor_zero).symm, of_xor, Int32.xor_zero]
      congr 1
    · rw [pk_uLn e, ← h3 j hj]
      unfold pr_
      rw [pk_un (by omega), pk_un (by omega)]
  have g2 := pr_srounds _ _ g1 4
  show ((pr_ (jc_srounds (upd v 5 (v 5 ^^^ 255)) 4) 0 ^^^ pr_ (jc_srounds (upd v 5 (v 5 ^^^ 255)) 4) 1) ^^^ pr_ (jc_srounds (upd v 5 (v 5 ^^^ 255)) 4) 2) ^^^ pr_ (jc_srounds (upd v 5 (v 5 ^^^ 255)) 4) 3 = mo_pfin st 0
  unfold mo_pfin
  rw [pk_uLs, g2 0 (by omega), g2 1 (by omega), g2 2 (by omega), g2 3 (by omega), Int64.xor_assoc, Int64.xor_assoc, Int64.xor_assoc]
theorem pr_first (key v : Nat → Int32) (st : Nat → Int64) : ∀ j, j < 4 → pr_ (jc_first xs_FR key v 4) j = mo_first (mo_of (key 1) (key 0)) (mo_of (key 3) (key 2)) st j := by
  intro j hj
  have e : ∀ n i, pr_ (jc_first xs_FR key v (n + 1)) i = if i = n then mo_of (xs_FR (2 * n)) (xs_FR (2 * n + 1)) ^^^ mo_of (key (2 * n % 4 + 1)) (key (2 * n % 4)) else pr_ (jc_first xs_FR key v n) i := fun n i => by
    show pr_ (upd (upd (jc_first xs_FR key v n) (2 * n) (xs_FR (2 * n) ^^^ key (2 * n % 4 + 1))) (2 * n + 1) (xs_FR (2 * n + 1) ^^^ key (2 * n % 4))) i = _
    rw [pr_put, of_xor]
  have k0 : mo_of (xs_FR 0) (xs_FR 1) = 8317987319222330741 := by decide +kernel
  have k1 : mo_of (xs_FR 2) (xs_FR 3) = 7237128888997146477 := by decide +kernel
  have k2 : mo_of (xs_FR 4) (xs_FR 5) = 7816392313619706465 := by decide +kernel
  have k3 : mo_of (xs_FR 6) (xs_FR 7) = 8387220255154660723 := by decide +kernel
  unfold mo_first
  rw [e 3, e 2, e 1, e 0]
  rcases (show j = 0 ∨ j = 1 ∨ j = 2 ∨ j = 3 by omega) with rfl | rfl | rfl | rfl
  · rw [if_neg (by omega), if_neg (by omega), if_neg (by omega), if_pos rfl, pk_uLn (by omega), pk_uLn (by omega), pk_uLn (by omega), pk_uLs]
    show mo_of (xs_FR 0) (xs_FR 1) ^^^ mo_of (key 1) (key 0) = _
    rw [k0, Int64.xor_comm]
  · rw [if_neg (by omega), if_neg (by omega), if_pos rfl, pk_uLn (by omega), pk_uLn (by omega), pk_uLs]
    show mo_of (xs_FR 2) (xs_FR 3) ^^^ mo_of (key 3) (key 2) = _
    rw [k1, Int64.xor_comm]
  · rw [if_neg (by omega), if_pos rfl, pk_uLn (by omega), pk_uLs]
    show mo_of (xs_FR 4) (xs_FR 5) ^^^ mo_of (key 1) (key 0) = _
    rw [k2, Int64.xor_comm]
  · rw [if_pos rfl, pk_uLs]
    show mo_of (xs_FR 6) (xs_FR 7) ^^^ mo_of (key 3) (key 2) = _
    rw [k3, Int64.xor_comm]
