/-! MATHEMATICS 5: numbers by digits of 16 bits; the reference's roots as numbers -/
def mo_v (t : Nat → Nat) : Nat → Nat
  | 0 => 0
  | n + 1 => mo_v t n + t n * 65536 ^ n
def nu_ (t : Nat → Nat) (k e : Nat) : Nat → Nat := fun j => if j = k then e else t j
def fL_ (t : Nat → Nat) : Nat → Int64 := fun j => lN (t j)
def mo_d (x j : Nat) : Nat := x / 65536 ^ j % 65536
def mo_D (x : Nat) : Nat → Int64 := fL_ (mo_d x)
theorem mo_d_lt (x j : Nat) : mo_d x j < 65536 := Nat.mod_lt _ (by omega)
theorem nu_s (t : Nat → Nat) (k e : Nat) : nu_ t k e k = e := if_pos rfl
theorem nu_n (t : Nat → Nat) {k j : Nat} (e : Nat) (h : j ≠ k) : nu_ t k e j = t j := if_neg h
theorem fL_upd (t : Nat → Nat) (k e : Nat) : vp_updL (fL_ t) k (lN e) = fL_ (nu_ t k e) := funext (fun j => by
  by_cases h : j = k
  · subst h; rw [pk_uLs]; unfold fL_; rw [nu_s]
  · rw [pk_uLn h]; unfold fL_; rw [nu_n t e h])
theorem v_out (t : Nat → Nat) (k e : Nat) : ∀ n, n ≤ k → mo_v (nu_ t k e) n = mo_v t n
  | 0, _ => rfl
  | n + 1, h => by
    show mo_v (nu_ t k e) n + nu_ t k e n * 65536 ^ n = mo_v t n + t n * 65536 ^ n
    rw [v_out t k e n (by omega), nu_n t e (by omega)]
theorem v_upd (t : Nat → Nat) (k e : Nat) : ∀ n, k < n → mo_v (nu_ t k e) n + t k * 65536 ^ k = mo_v t n + e * 65536 ^ k
  | 0, h => absurd h (Nat.not_lt_zero k)
  | n + 1, h => by
    show mo_v (nu_ t k e) n + nu_ t k e n * 65536 ^ n + t k * 65536 ^ k = mo_v t n + t n * 65536 ^ n + e * 65536 ^ k
    by_cases h2 : k = n
    · subst h2
      rw [nu_s, v_out t k e k (Nat.le_refl k)]
      omega
    · have ih := v_upd t k e n (by omega)
      rw [nu_n t e (fun q => h2 q.symm)]
      omega
theorem v_lt (t : Nat → Nat) : ∀ n, (∀ j, j < n → t j < 65536) → mo_v t n < 65536 ^ n
  | 0, _ => by show 0 < 65536 ^ 0; decide
  | n + 1, h => by
    show mo_v t n + t n * 65536 ^ n < 65536 ^ (n + 1)
    have ih := v_lt t n (fun j hj => h j (by omega))
    have h1 : t n * 65536 ^ n ≤ 65535 * 65536 ^ n := Nat.mul_le_mul_right _ (by have := h n (by omega); omega)
    rw [Nat.pow_succ]
    omega
theorem v_dig (t : Nat → Nat) : ∀ n, (∀ j, j < n → t j < 65536) → ∀ j, j < n → mo_v t n / 65536 ^ j % 65536 = t j
  | 0, _, j, hj => absurd hj (Nat.not_lt_zero j)
  | n + 1, h, j, hj => by
    show (mo_v t n + t n * 65536 ^ n) / 65536 ^ j % 65536 = t j
    have hp : ∀ q, 0 < 65536 ^ q := fun q => Nat.pow_pos (by omega)
    by_cases h2 : j = n
    · subst h2
      rw [Nat.add_mul_div_right _ _ (hp j), Nat.div_eq_of_lt (v_lt t j (fun q hq => h q (by omega))), Nat.zero_add, Nat.mod_eq_of_lt (h j (by omega))]
    · have e : t n * 65536 ^ n = (t n * 65536 ^ (n - j - 1) * 65536) * 65536 ^ j := by
        have e1 : 65536 ^ n = 65536 ^ (n - j - 1) * 65536 * 65536 ^ j := by
          rw [← Nat.pow_succ, ← Nat.pow_add]
          congr 1
          omega
        rw [e1, Nat.mul_assoc, Nat.mul_assoc, Nat.mul_assoc]
      rw [e, Nat.add_mul_div_right _ _ (hp j), Nat.add_mul_mod_self_right]
      exact v_dig t n (fun q hq => h q (by omega)) j (by omega)
theorem v_mod (x : Nat) : ∀ n, mo_v (mo_d x) n = x % 65536 ^ n
  | 0 => by show 0 = x % 1; omega
  | n + 1 => by
    show mo_v (mo_d x) n + mo_d x n * 65536 ^ n = _
    rw [v_mod x n, Nat.mod_pow_succ, Nat.mul_comm (mo_d x n)]
    rfl
theorem v_self {x n : Nat} (h : x < 65536 ^ n) : mo_v (mo_d x) n = x := by rw [v_mod, Nat.mod_eq_of_lt h]
theorem v_fL {t : Nat → Nat} {n X : Nat} (h : ∀ j, j < n → t j < 65536) (e : mo_v t n = X) : ∀ j, j < n → fL_ t j = mo_D X j := fun j hj => by
  unfold mo_D fL_ mo_d
  rw [← e, v_dig t n h j hj]
/-- one step of the inner loop of 'multiply' -/
theorem mul_in (x y c i j N : Nat) (t : Nat → Nat) (ht : ∀ q, t q < 65536) (hc : c < 65536) (hij : i + j < N) (hv : mo_v t N + c * 65536 ^ (i + j) = (x % 65536 ^ i) * y + mo_d x i * (y % 65536 ^ j) * 65536 ^ i) :
    mo_v (nu_ t (i + j) ((t (i + j) + mo_d x i * mo_d y j + c) % 65536)) N + ((t (i + j) + mo_d x i * mo_d y j + c) / 65536) * 65536 ^ (i + (j + 1)) = (x % 65536 ^ i) * y + mo_d x i * (y % 65536 ^ (j + 1)) * 65536 ^ i := by
  have e1 := v_upd t (i + j) ((t (i + j) + mo_d x i * mo_d y j + c) % 65536) N hij
  generalize hS : t (i + j) + mo_d x i * mo_d y j + c = S at e1 ⊢
  have e2 : 65536 * (S / 65536) + S % 65536 = S := Nat.div_add_mod S 65536
  have e3 : y % 65536 ^ (j + 1) = y % 65536 ^ j + 65536 ^ j * mo_d y j := Nat.mod_pow_succ
  have eP : 65536 ^ (i + j) = 65536 ^ i * 65536 ^ j := Nat.pow_add _ _ _
  have eQ : 65536 ^ (i + (j + 1)) = 65536 ^ (i + j) * 65536 := by rw [← Nat.add_assoc, Nat.pow_succ]
  have g1 : mo_d x i * (y % 65536 ^ (j + 1)) * 65536 ^ i = mo_d x i * (y % 65536 ^ j) * 65536 ^ i + (mo_d x i * mo_d y j) * 65536 ^ (i + j) := by
    rw [e3, Nat.mul_add, Nat.add_mul, eP]
    congr 1
    rw [Nat.mul_comm (65536 ^ j) (mo_d y j), ← Nat.mul_assoc, Nat.mul_assoc _ (65536 ^ j), Nat.mul_comm (65536 ^ j)]
  generalize 65536 ^ (i + j) = P at *
  have g2 : S * P = 65536 * (S / 65536 * P) + S % 65536 * P := by
    have h9 : (65536 * (S / 65536) + S % 65536) * P = S * P := by rw [e2]
    rw [← h9, Nat.add_mul, Nat.mul_assoc]
  have g3 : S * P = t (i + j) * P + (mo_d x i * mo_d y j) * P + c * P := by rw [← hS, Nat.add_mul, Nat.add_mul]
  have g4 : S / 65536 * (P * 65536) = 65536 * (S / 65536 * P) := by rw [← Nat.mul_assoc, Nat.mul_comm]
  rw [eQ, g4, g1]
  omega
theorem mul_S (x y c i j : Nat) (t : Nat → Nat) (ht : ∀ q, t q < 65536) (hc : c < 65536) : t (i + j) + mo_d x i * mo_d y j + c < 4294967296 := by
  have h1 := mo_d_lt x i
  have h2 := mo_d_lt y j
  have h3 := ht (i + j)
  have : mo_d x i * mo_d y j ≤ 65535 * 65535 := Nat.mul_le_mul (by omega) (by omega)
  omega
/-- the end of the inner loop -/
theorem mul_out (x y c i m N : Nat) (t : Nat → Nat) (hy : y < 65536 ^ m) (hz : t (i + m) = 0) (him : i + m < N) (hv : mo_v t N + c * 65536 ^ (i + m) = (x % 65536 ^ i) * y + mo_d x i * (y % 65536 ^ m) * 65536 ^ i) :
    mo_v (nu_ t (i + m) c) N = (x % 65536 ^ (i + 1)) * y := by
  have e1 := v_upd t (i + m) c N him
  rw [hz, Nat.zero_mul, Nat.add_zero, hv, Nat.mod_eq_of_lt hy] at e1
  rw [e1, Nat.mod_pow_succ, Nat.add_mul]
  congr 1
  show mo_d x i * y * 65536 ^ i = 65536 ^ i * mo_d x i * y
  rw [Nat.mul_comm _ (65536 ^ i), Nat.mul_assoc]
-- Int64
theorem lN_and16 (S : Nat) (h : S < 2 ^ 62) : lN S &&& 65535 = lN (S % 65536) := by
  apply Int64.toBitVec_inj.mp
  apply BitVec.eq_of_toNat_eq
  rw [Int64.toBitVec_and, BitVec.toNat_and]
  show S % 2 ^ 64 &&& 65535 = S % 65536 % 2 ^ 64
  rw [Nat.mod_eq_of_lt (show S < 2 ^ 64 by omega), Nat.mod_eq_of_lt (show S % 65536 < 2 ^ 64 by omega)]
  exact Nat.and_two_pow_sub_one_eq_mod S 16
theorem lN_shr16 (S : Nat) (h : S < 2 ^ 62) : xm_r (lN S) 16 = lN (S / 65536) := by
  apply Int64.toInt_inj.mp
  show (lN S >>> (((16 : Int32).toInt64) &&& 63)).toInt = _
  have e1 : (lN S).toInt = (S : Int) := pk_lT (by omega)
  have e2 : (lN (S / 65536)).toInt = ((S / 65536 : Nat) : Int) := pk_lT (by omega)
  rw [e2, ← Int64.toInt_toBitVec, Int64.toBitVec_shiftRight, BitVec.sshiftRight_eq', show (((16 : Int32).toInt64 &&& 63).toBitVec.smod 64).toNat = 16 by decide, BitVec.toInt_sshiftRight, Int64.toInt_toBitVec, e1]
  show ((S : Int) >>> 16) = _
  rw [Int.shiftRight_eq_div_pow]
  omega
theorem lN_shl (S k : Nat) (hk : k < 64) : xm_l (lN S) (nI k) = lN (S * 2 ^ k) := q_ext (fun i hi => by
  rw [q_shl k hk _ hi]
  show (decide (k ≤ i) && (BitVec.ofNat 64 S).getLsbD (i - k)) = (BitVec.ofNat 64 (S * 2 ^ k)).getLsbD i
  rw [BitVec.getLsbD_ofNat, BitVec.getLsbD_ofNat, Nat.testBit_mul_two_pow]
  simp [hi]
  rw [decide_eq_true (show i - k < 64 by omega), Bool.true_and])
theorem lN_or {b a k : Nat} (ha : a < 2 ^ k) (h : b * 2 ^ k + a < 2 ^ 64) : lN (b * 2 ^ k) ||| lN a = lN (b * 2 ^ k + a) := by
  apply Int64.toBitVec_inj.mp
  apply BitVec.eq_of_toNat_eq
  rw [Int64.toBitVec_or, BitVec.toNat_or]
  show (b * 2 ^ k) % 2 ^ 64 ||| a % 2 ^ 64 = (b * 2 ^ k + a) % 2 ^ 64
  rw [Nat.mod_eq_of_lt (by omega), Nat.mod_eq_of_lt (by omega), Nat.mod_eq_of_lt h, ← Nat.shiftLeft_eq, Nat.shiftLeft_add_eq_or_of_lt ha]
/-- the content of a cell counts up to its length -/
theorem xk_congL {D : va_G} {cl : List vw_C} {ws : va_W} {H : Heap} {a : Nat} {c : ClassId} {n : Nat} {f g : Nat → Int64} (hP : va_P D cl ws H) (q : Nat) (hq : ws[q]? = some (a, .inl (c, n, .inr (.inl f)))) (h : ∀ j, j < n → f j = g j) : va_P D cl (ws.set q (a, .inl (c, n, .inr (.inl g)))) H := by
  intro k e hk
  by_cases hqk : q = k
  · subst hqk
    have hl : q < ws.length := (List.getElem?_eq_some_iff.mp hq).1
    rw [List.getElem?_set_self hl] at hk
    cases hk
    have h0 := hP q _ hq
    show H[a]? = some (vp_cell c (n, .inr (.inl g)))
    rw [show H[a]? = some (vp_cell c (n, .inr (.inl f))) from h0]
    congr 1
    show arrV c n (fun j => .long (f j)) = arrV c n (fun j => .long (g j))
    unfold arrV
    congr 2
    funext j
    show Value.long (f j.val) = Value.long (g j.val)
    rw [h j.val j.isLt]
  · rw [List.getElem?_set_ne hqk] at hk
    exact hP k e hk
def mo_z (g : Nat → Int64) : Nat → (Nat → Int64)
  | 0 => g
  | k + 1 => vp_updL (mo_z g k) k 0
theorem mo_z_at (g : Nat → Int64) : ∀ n j, j < n → mo_z g n j = 0
  | 0, j, h => absurd h (Nat.not_lt_zero j)
  | n + 1, j, h => by
    show vp_updL (mo_z g n) n 0 j = 0
    by_cases e : j = n
    · subst e; rw [pk_uLs]
    · rw [pk_uLn e]; exact mo_z_at g n j (by omega)
theorem v_zero : ∀ n, mo_v (fun _ => 0) n = 0
  | 0 => rfl
  | n + 1 => by
    show mo_v (fun _ => 0) n + 0 * 65536 ^ n = 0
    rw [v_zero n, Nat.zero_mul]
theorem nu_lt {t : Nat → Nat} {k e : Nat} (h : ∀ q, t q < 65536) (he : e < 65536) : ∀ q, nu_ t k e q < 65536 := fun q => by
  by_cases c : q = k
  · subst c; rw [nu_s]; exact he
  · rw [nu_n t e c]; exact h q
theorem dig_2 (X : Nat) (h : X < 65536 ^ 10) : mo_D X 8 + xm_l (mo_D X 9) 16 = lN (X / 65536 ^ 8) := by
  show lN (mo_d X 8) + xm_l (lN (mo_d X 9)) (nI 16) = _
  rw [lN_shl _ 16 (by omega), lN_add]
  congr 1
  unfold mo_d
  have e : X / 65536 ^ 9 = X / 65536 ^ 8 / 65536 := by rw [Nat.div_div_eq_div_mul]
  have h2 : X / 65536 ^ 8 < 65536 ^ 2 := Nat.div_lt_of_lt_mul (by rw [← Nat.pow_add]; exact h)
  rw [e]
  generalize X / 65536 ^ 8 = q at *
  omega
theorem dig_3 (X : Nat) (h : X < 65536 ^ 15) : (mo_D X 12 + xm_l (mo_D X 13) 16) + xm_l (mo_D X 14) 32 = lN (X / 65536 ^ 12) := by
  show (lN (mo_d X 12) + xm_l (lN (mo_d X 13)) (nI 16)) + xm_l (lN (mo_d X 14)) (nI 32) = _
  rw [lN_shl _ 16 (by omega), lN_shl _ 32 (by omega), lN_add, lN_add]
  congr 1
  unfold mo_d
  have e1 : X / 65536 ^ 13 = X / 65536 ^ 12 / 65536 := by rw [Nat.div_div_eq_div_mul]
  have e2 : X / 65536 ^ 14 = X / 65536 ^ 12 / 4294967296 := by rw [Nat.div_div_eq_div_mul]
  have h2 : X / 65536 ^ 12 < 65536 ^ 3 := Nat.div_lt_of_lt_mul (by rw [← Nat.pow_add]; exact h)
  rw [e1, e2]
  generalize X / 65536 ^ 12 = q at *
  omega
theorem dig_4 (x : Nat) : ((xm_l (mo_D x 3) 48 ||| xm_l (mo_D x 2) 32) ||| xm_l (mo_D x 1) 16) ||| mo_D x 0 = lN (x % 2 ^ 64) := by
  show ((xm_l (lN (mo_d x 3)) (nI 48) ||| xm_l (lN (mo_d x 2)) (nI 32)) ||| xm_l (lN (mo_d x 1)) (nI 16)) ||| lN (mo_d x 0) = _
  rw [lN_shl _ 48 (by omega), lN_shl _ 32 (by omega), lN_shl _ 16 (by omega)]
  have h0 := mo_d_lt x 0
  have h1 := mo_d_lt x 1
  have h2 := mo_d_lt x 2
  have h3 := mo_d_lt x 3
  rw [lN_or (k := 48) (by omega) (by omega), show mo_d x 3 * 2 ^ 48 + mo_d x 2 * 2 ^ 32 = (mo_d x 3 * 65536 + mo_d x 2) * 2 ^ 32 by omega, lN_or (k := 32) (by omega) (by omega), show (mo_d x 3 * 65536 + mo_d x 2) * 2 ^ 32 + mo_d x 1 * 2 ^ 16 = ((mo_d x 3 * 65536 + mo_d x 2) * 65536 + mo_d x 1) * 2 ^ 16 by omega, lN_or (k := 16) (by omega) (by omega)]
  congr 1
  have e := v_mod x 4
  have e2 : mo_v (mo_d x) 4 = (((0 + mo_d x 0 * 65536 ^ 0) + mo_d x 1 * 65536 ^ 1) + mo_d x 2 * 65536 ^ 2) + mo_d x 3 * 65536 ^ 3 := rfl
  rw [e2] at e
  rw [show (2 : Nat) ^ 64 = 65536 ^ 4 from by decide, ← e]
  omega
/-- a bit more, where none stands at it and below -/
theorem bit_v (r d : Nat) (hr : r % 2 ^ (d + 1) = 0) (hd : d < 80) (h5 : r < 65536 ^ 5) : mo_d r (d / 16) + 2 ^ (d % 16) < 65536 ∧ mo_v (nu_ (mo_d r) (d / 16) (mo_d r (d / 16) + 2 ^ (d % 16))) 5 = r + 2 ^ d := by
  have ed : 2 ^ d = 2 ^ (d % 16) * 65536 ^ (d / 16) := by
    rw [show (65536 : Nat) = 2 ^ 16 from rfl, ← Nat.pow_mul, ← Nat.pow_add]
    congr 1
    omega
  have ed1 : 2 ^ (d + 1) = 2 ^ (d % 16 + 1) * 65536 ^ (d / 16) := by rw [Nat.pow_succ, Nat.pow_succ, ed, Nat.mul_assoc, Nat.mul_comm (65536 ^ (d / 16)), ← Nat.mul_assoc]
  have hp : 0 < 65536 ^ (d / 16) := Nat.pow_pos (by omega)
  have hs : mo_d r (d / 16) % 2 ^ (d % 16 + 1) = 0 := by
    have hr2 : r = 2 ^ (d + 1) * (r / 2 ^ (d + 1)) := by have := Nat.div_add_mod r (2 ^ (d + 1)); omega
    have e1 : r / 65536 ^ (d / 16) = 2 ^ (d % 16 + 1) * (r / 2 ^ (d + 1)) := by
      have e0 : r = (2 ^ (d % 16 + 1) * (r / 2 ^ (d + 1))) * 65536 ^ (d / 16) := by
        rw [Nat.mul_assoc, Nat.mul_comm (r / 2 ^ (d + 1)), ← Nat.mul_assoc, ← ed1]
        exact hr2
      exact Nat.div_eq_of_eq_mul_left hp e0
    unfold mo_d
    have hdv : 2 ^ (d % 16 + 1) ∣ 65536 := by
      rw [show (65536 : Nat) = 2 ^ 16 from rfl]
      exact Nat.pow_dvd_pow 2 (by omega)
    rw [Nat.mod_mod_of_dvd _ hdv, e1, Nat.mul_mod_right]
  have hb : mo_d r (d / 16) + 2 ^ (d % 16) < 65536 := by
    have h1 := mo_d_lt r (d / 16)
    generalize mo_d r (d / 16) = z at *
    have h16 : d % 16 < 16 := Nat.mod_lt _ (by omega)
    generalize d % 16 = e at *
    rcases (show e = 0 ∨ e = 1 ∨ e = 2 ∨ e = 3 ∨ e = 4 ∨ e = 5 ∨ e = 6 ∨ e = 7 ∨ e = 8 ∨ e = 9 ∨ e = 10 ∨ e = 11 ∨ e = 12 ∨ e = 13 ∨ e = 14 ∨ e = 15 by omega) with rfl | rfl | rfl | rfl | rfl | rfl | rfl | rfl | rfl | rfl | rfl | rfl | rfl | rfl | rfl | rfl <;> simp only [Nat.reducePow, Nat.reduceAdd] at * <;> omega
  refine ⟨hb, ?_⟩
  have e := v_upd (mo_d r) (d / 16) (mo_d r (d / 16) + 2 ^ (d % 16)) 5 (by omega)
  rw [v_self h5, Nat.add_mul, ← ed] at e
  omega
theorem lN_bit (e : Nat) (h : e < 64) : xm_l 1 (nI e) = lN (2 ^ e) := by
  have := lN_shl 1 e h
  rw [Nat.one_mul] at this
  exact this
theorem bit_add (r d : Nat) (hr : r % 2 ^ (d + 1) = 0) (hd : d < 80) (h5 : r < 65536 ^ 5) : ∀ j, j < 5 → vp_updL (mo_D r) (d / 16) (mo_D r (d / 16) + xm_l 1 (nI (d % 16))) j = mo_D (r + 2 ^ d) j := by
  obtain ⟨h1, h2⟩ := bit_v r d hr hd h5
  rw [lN_bit _ (by omega)]
  show ∀ j, j < 5 → vp_updL (fL_ (mo_d r)) (d / 16) (lN (mo_d r (d / 16)) + lN (2 ^ (d % 16))) j = _
  rw [lN_add, fL_upd]
  exact v_fL (fun j _ => nu_lt (mo_d_lt r) h1 j) h2
theorem bit_sub (r d : Nat) (hr : r % 2 ^ (d + 1) = 0) (hd : d < 80) (h5 : r < 65536 ^ 5) : ∀ j, j < 5 → vp_updL (mo_D (r + 2 ^ d)) (d / 16) (mo_D (r + 2 ^ d) (d / 16) - xm_l 1 (nI (d % 16))) j = mo_D r j := by
  intro j hj
  have h := bit_add r d hr hd h5
  rw [lN_bit _ (by omega)] at h ⊢
  have h0 := h (d / 16) (by omega)
  rw [pk_uLs] at h0
  by_cases e : j = d / 16
  · subst e
    rw [pk_uLs, ← h0]
    show (lN (mo_d r (d / 16)) + lN (2 ^ (d % 16))) - lN (2 ^ (d % 16)) = lN (mo_d r (d / 16))
    rw [lN_add, lN_sub (Nat.le_add_left _ _), Nat.add_sub_cancel]
  · rw [pk_uLn e, ← h j hj, pk_uLn e]
def mo_rs (bl : Nat → Bool) : Nat → Nat
  | 0 => 0
  | n + 1 => if bl (mo_rs bl n + 2 ^ (69 - n)) then mo_rs bl n + 2 ^ (69 - n) else mo_rs bl n
theorem mo_rs_ok (bl : Nat → Bool) : ∀ n, n ≤ 70 → ∃ s, mo_rs bl n = s * 2 ^ (70 - n) ∧ s < 2 ^ n
  | 0, _ => ⟨0, (Nat.zero_mul _).symm, by decide⟩
  | n + 1, h => by
    obtain ⟨s, h1, h2⟩ := mo_rs_ok bl n (by omega)
    have e : 2 ^ (70 - n) = 2 * 2 ^ (70 - (n + 1)) := by rw [Nat.mul_comm, ← Nat.pow_succ]; congr 1; omega
    have e2 : 69 - n = 70 - (n + 1) := by omega
    by_cases c : bl (mo_rs bl n + 2 ^ (69 - n)) = true
    · refine ⟨2 * s + 1, ?_, ?_⟩
      · rw [show mo_rs bl (n + 1) = _ from if_pos c, h1, e, e2, Nat.add_mul, Nat.one_mul, ← Nat.mul_assoc, Nat.mul_comm s 2]
      · rw [Nat.pow_succ]; omega
    · refine ⟨2 * s, ?_, ?_⟩
      · rw [show mo_rs bl (n + 1) = _ from if_neg c, h1, e, ← Nat.mul_assoc, Nat.mul_comm s 2]
      · rw [Nat.pow_succ]; omega
theorem mo_rs_at (bl : Nat → Bool) (n : Nat) (h : n < 70) : mo_rs bl n % 2 ^ (69 - n + 1) = 0 ∧ mo_rs bl n < 65536 ^ 5 ∧ mo_rs bl n + 2 ^ (69 - n) < 65536 ^ 5 := by
  obtain ⟨s, h1, h2⟩ := mo_rs_ok bl n (by omega)
  have e2 : 69 - n + 1 = 70 - n := by omega
  have e3 : 2 ^ (69 - n) ≤ 2 ^ 69 := Nat.pow_le_pow_right (by omega) (by omega)
  have e4 : s * 2 ^ (70 - n) < 2 ^ n * 2 ^ (70 - n) := Nat.mul_lt_mul_of_pos_right h2 (Nat.pow_pos (by omega))
  rw [← Nat.pow_add, show n + (70 - n) = 70 by omega] at e4
  refine ⟨by rw [h1, e2, Nat.mul_mod_left], ?_, ?_⟩
  · rw [h1]; exact Nat.lt_trans e4 (by decide)
  · rw [h1]
    have : (2 : Nat) ^ 70 + 2 ^ 69 < 65536 ^ 5 := by decide
    omega
def mo_b0 (p x : Nat) : Bool := decide (x * x / 65536 ^ 8 < p)
def mo_b1 (p x : Nat) : Bool := decide (x * x * x / 65536 ^ 12 < p)
def mo_k2 (bl : Nat → Bool) (g : Nat → Int64) : Nat → (Nat → Int64)
  | 0 => g
  | n + 1 => mo_D ((mo_rs bl n + 2 ^ (69 - n)) * (mo_rs bl n + 2 ^ (69 - n)))
def mo_k3 (bl : Nat → Bool) (g : Nat → Int64) : Nat → (Nat → Int64)
  | 0 => g
  | n + 1 => mo_D ((mo_rs bl n + 2 ^ (69 - n)) * (mo_rs bl n + 2 ^ (69 - n)) * (mo_rs bl n + 2 ^ (69 - n)))
