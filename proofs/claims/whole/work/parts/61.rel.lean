/-! the relation between class and reference that the law's loop keeps -/
def xr_J (t : Nat) (opn knd cd cnt : Int32) (S : xs_S) (P : xp_S) (hd : Nat) (rs : Nat → Int32) (st ww rr : Nat → Int64) : Prop :=
  (knd = 0 ∧ opn = 0 ∧ cd = 0) ∨
  ((knd = 1 ∨ knd = 2) ∧ opn = 1 ∧ cd = 0 ∧ xr_S S (st, ww, rr, rs, hd) ∧ ∃ c, c ≤ 2000 * t ∧ cnt = nI c ∧ hd = c % 128) ∨
  ((knd = 1 ∨ knd = 2) ∧ opn = 0 ∧ cd = 1 ∧ ∀ j, j < 8 → pr_ S.1 j = st j) ∨
  (knd = 3 ∧ opn = 1 ∧ cd = 0 ∧ xr_P P (st, rs, hd) ∧ ∃ c, c ≤ 2000 * t ∧ cnt = nI c ∧ hd = c % 8) ∨
  (knd = 3 ∧ opn = 0 ∧ cd = 1 ∧ mo_of (jc_pword P.1 0) (jc_pword P.1 1) = st 0)
theorem xr_mono {t : Nat} {opn knd cd cnt : Int32} {S : xs_S} {P : xp_S} {hd : Nat} {rs : Nat → Int32} {st ww rr : Nat → Int64} (h : xr_J t opn knd cd cnt S P hd rs st ww rr) : xr_J (t + 1) opn knd cd cnt S P hd rs st ww rr := by
  rcases h with h | ⟨h1, h2, h3, h4, c, h5, h6, h7⟩ | h | ⟨h1, h2, h3, h4, c, h5, h6, h7⟩ | h
  · exact Or.inl h
  · exact Or.inr (Or.inl ⟨h1, h2, h3, h4, c, by omega, h6, h7⟩)
  · exact Or.inr (Or.inr (Or.inl h))
  · exact Or.inr (Or.inr (Or.inr (Or.inl ⟨h1, h2, h3, h4, c, by omega, h6, h7⟩)))
  · exact Or.inr (Or.inr (Or.inr (Or.inr h)))
theorem xr_beg5 (tot lt sch : Nat → Int32) (st ww rr : Nat → Int64) (rs : Nat → Int32) : xr_S (va_cpy xs_SQ tot 0 0 16, lt, sch, 0) (mo_cp st (mo_sqf 80) 8, ww, rr, rs, 0) := by
  refine ⟨rfl, by show 0 < 128; omega, fun j hj => ?_, xr_B0 _ _⟩
  show pr_ (va_cpy xs_SQ tot 0 0 16) j = mo_cp st (mo_sqf 80) 8 j
  rw [mo_cp_at st (mo_sqf 80) 8 j hj, ← sq_sq j (by omega)]
  unfold pr_
  rw [pk_cpy_in (by omega) (by omega), pk_cpy_in (by omega) (by omega)]
  congr 2 <;> omega
theorem mo_sq8_at (st sq : Nat → Int64) : ∀ n j, j < n → mo_sq8 st sq n j = sq (8 + j)
  | 0, j, h => absurd h (Nat.not_lt_zero j)
  | n + 1, j, h => by
    show vp_updL (mo_sq8 st sq n) n (sq (8 + n)) j = _
    by_cases e : j = n
    · subst e; rw [pk_uLs]
    · rw [pk_uLn e]; exact mo_sq8_at st sq n j (by omega)
theorem xr_beg3 (tot lt sch : Nat → Int32) (st ww rr : Nat → Int64) (rs : Nat → Int32) : xr_S (va_cpy xs_SQ tot 16 0 16, lt, sch, 0) (mo_sq8 st (mo_sqf 80) 8, ww, rr, rs, 0) := by
  refine ⟨rfl, by show 0 < 128; omega, fun j hj => ?_, xr_B0 _ _⟩
  show pr_ (va_cpy xs_SQ tot 16 0 16) j = mo_sq8 st (mo_sqf 80) 8 j
  rw [mo_sq8_at st (mo_sqf 80) 8 j hj, ← sq_sq (8 + j) (by omega)]
  unfold pr_
  rw [pk_cpy_in (by omega) (by omega), pk_cpy_in (by omega) (by omega)]
  congr 2 <;> omega
theorem xr_begp (key v : Nat → Int32) (gh gl : Int32) (st : Nat → Int64) (rs : Nat → Int32) : xr_P (jc_first xs_FR key v 4, gh, gl, 0) (mo_first (mo_of (key 1) (key 0)) (mo_of (key 3) (key 2)) st, rs, 0) :=
  ⟨rfl, by show 0 < 8; omega, pr_first key v st, fun j hj => absurd hj (Nat.not_lt_zero j), fun j hj => absurd hj (Nat.not_lt_zero j)⟩
theorem mo_ups_k (cu : Nat → Int64) (S : xm_S) (b sp : Int32) (h : S.2.2.2.2 < 128) : ∀ n, (mo_ups cu S b sp n).2.2.2.2 = (S.2.2.2.2 + n) % 128
  | 0 => (Nat.mod_eq_of_lt h).symm
  | n + 1 => by
    show (mo_take cu (mo_ups cu S b sp n) _).2.2.2.2 = _
    rw [mo_take_k cu _ _ (mo_ups_lt cu S b sp h n), mo_ups_k cu S b sp h n]
    omega
theorem mo_pups_k (S : xq_S) (b sp : Int32) (h : S.2.2 < 8) : ∀ n, (mo_pups S b sp n).2.2 = (S.2.2 + n) % 8
  | 0 => (Nat.mod_eq_of_lt h).symm
  | n + 1 => by
    show (mo_ptake (mo_pups S b sp n) _).2.2 = _
    rw [mo_ptake_k _ _ (mo_pups_lt S b sp h n), mo_pups_k S b sp h n]
    omega
theorem wd_s (tot : Nat → Int32) (st : Nat → Int64) (h : ∀ j, j < 8 → pr_ tot j = st j) (i : Nat) (hi : i < 16) : tot i = mo_word st i := by
  unfold mo_word
  rw [← h (i / 2) (by omega)]
  unfold pr_
  by_cases c : i % 2 = 0
  · rw [if_pos c, of_hi, show 2 * (i / 2) = i by omega]
  · rw [if_neg c, of_lo, show 2 * (i / 2) + 1 = i by omega]
theorem wd_p (v : Nat → Int32) (st : Nat → Int64) (h : mo_of (jc_pword v 0) (jc_pword v 1) = st 0) (i : Nat) (hi : i < 2) : jc_pword v i = mo_word st i := by
  unfold mo_word
  rw [show i / 2 = 0 by omega, ← h]
  rcases (show i = 0 ∨ i = 1 by omega) with rfl | rfl
  · rw [if_pos rfl, of_hi]
  · rw [if_neg (by decide), of_lo]
theorem ad_lo (a1 a2 a3 a4 : Int32) : a2 + a4 = Int64.toInt32 (mo_of a1 a2 + mo_of a3 a4) := by rw [← of_add, of_lo]
theorem ad_hi (a1 a2 a3 a4 : Int32) : (a1 + a3) + jc_carry a2 a4 = Int64.toInt32 (xm_r (mo_of a1 a2 + mo_of a3 a4) 32) := by rw [← of_add, of_hi, Int32.add_assoc]
theorem rt_hi (a1 a2 a3 : Int32) : jc_turned a1 a2 a3 = Int64.toInt32 (xm_r (mo_right (mo_of a1 a2) a3) 32) := by rw [← of_turned a1 a2 a3 a3 rfl, of_hi]
theorem rt_lo (a1 a2 a3 : Int32) : jc_turned a2 a1 a3 = Int64.toInt32 (mo_right (mo_of a1 a2) a3) := by rw [← of_turned a1 a2 a3 a3 rfl, of_lo]
theorem ge_4 {i : Int32} (h : nI 4 ≤ i) : ¬ i < 4 ∧ ¬ i ≤ 3 := ⟨fun h2 => absurd h (Int32.not_le.mpr h2), fun h2 => absurd (Int32.le_trans h h2) (by decide)⟩
theorem w_0 (i : Int32) : i < 0 ∨ ¬ i < jc_words 0 := by rw [show jc_words 0 = 0 from by decide]; exact Decidable.em _
