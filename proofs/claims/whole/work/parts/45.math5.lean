/-! MATHEMATICS 5: numbers by digits of 16 bits; the reference's roots as numbers -/
def mo_v (t : Nat → Nat) : Nat → Nat
  | 0 => 0
  | n + 1 => mo_v t n + t n * 65536 ^ n
def nu_ (t : Nat → Nat) (k e : Nat) : Nat → Nat := fun j => if j = k then e else t j
def fL_ (t : Nat → Nat) : Nat → Int64 := fun j => lN (t j)
def mo_d (x j : Nat) : Nat := x / 65536 ^ j % 65536
def mo_D (x : Nat) : Nat → Int64 := fL_ (mo_d x)
theorem mo_d_lt (x j : Nat) : mo_d x j < 65536 := Nat.mod_lt _ (by omega)
theorem nu_s (t : Nat → Nat) (k e : Nat) : nu_ t k e k = e := if_pos rfl
theorem nu_n (t : Nat → Nat) {k j : Nat} (e : Nat) (h : j ≠ k) : nu_ t k e j = t j := if_neg h
theorem fL_upd (t : Nat → Nat) (k e : Nat) : vp_updL (fL_ t) k (lN e) = fL_ (nu_ t k e) := funext (fun j => by
  by_cases h : j = k
  · subst h; rw [pk_uLs]; unfold fL_; rw [nu_s]
  · rw [pk_uLn h]; unfold fL_; rw [nu_n t e h])
theorem v_out (t : Nat → Nat) (k e : Nat) : ∀ n, n ≤ k → mo_v (nu_ t k e) n = mo_v t n
  | 0, _ => rfl
  | n + 1, h => by
    show mo_v (nu_ t k e) n + nu_ t k e n * 65536 ^ n = mo_v t n + t n * 65536 ^ n
    rw [v_out t k e n (by omega), nu_n t e (by omega)]
theorem v_upd (t : Nat → Nat) (k e : Nat) : ∀ n, k < n → mo_v (nu_ t k e) n + t k * 65536 ^ k = mo_v t n + e * 65536 ^ k
  | 0, h => absurd h (Nat.not_lt_zero k)
  | n + 1, h => by
    show mo_v (nu_ t k e) n + nu_ t k e n * 65536 ^ n + t k * 65536 ^ k = mo_v t n + t n * 65536 ^ n + e * 65536 ^ k
    by_cases h2 : k = n
    · subst h2
      rw [nu_s, v_out t k e k (Nat.le_refl k)]
      omega
    · have ih := v_upd t k e n (by omega)
      rw [nu_n t e (fun q => h2 q.symm)]
      omega
theorem v_lt (t : Nat → Nat) : ∀ n, (∀ j, j < n → t j < 65536) → mo_v t n < 65536 ^ n
  | 0, _ => by show 0 < 65536 ^ 0; decide
  | n + 1, h => by
    show mo_v t n + t n * 65536 ^ n < 65536 ^ (n + 1)
    have ih := v_lt t n (fun j hj => h j (by omega))
    have h1 : t n * 65536 ^ n ≤ 65535 * 65536 ^ n := Nat.mul_le_mul_right _ (by have := h n (by omega); omega)
    rw [Nat.pow_succ]
    omega
theorem v_dig (t : Nat → Nat) : ∀ n, (∀ j, j < n → t j < 65536) → ∀ j, j < n → mo_v t n / 65536 ^ j % 65536 = t j
  | 0, _, j, hj => absurd hj (Nat.not_lt_zero j)
  | n + 1, h, j, hj => by
    show (mo_v t n + t n * 65536 ^ n) / 65536 ^ j % 65536 = t j
    have hp : ∀ q, 0 < 65536 ^ q := fun q => Nat.pow_pos (by omega)
    by_cases h2 : j = n
    · subst h2
      rw [Nat.add_mul_div_right _ _ (hp j), Nat.div_eq_of_lt (v_lt t j (fun q hq => h q (by omega))), Nat.zero_add, Nat.mod_eq_of_lt (h j (by omega))]
    · have e : t n * 65536 ^ n = (t n * 65536 ^ (n - j - 1) * 65536) * 65536 ^ j := by
        have e1 : 65536 ^ n = 65536 ^ (n - j - 1) * 65536 * 65536 ^ j := by
          rw [← Nat.pow_succ, ← Nat.pow_add]
          congr 1
          omega
        rw [e1, Nat.mul_assoc, Nat.mul_assoc, Nat.mul_assoc]
      rw [e, Nat.add_mul_div_right _ _ (hp j), Nat.add_mul_mod_self_right]
      exact v_dig t n (fun q hq => h q (by omega)) j (by omega)
theorem v_mod (x : Nat) : ∀ n, mo_v (mo_d x) n = x % 65536 ^ n
  | 0 => by show 0 = x % 1; omega
  | n + 1 => by
    show mo_v (mo_d x) n + mo_d x n * 65536 ^ n = _
    rw [v_mod x n, Nat.mod_pow_succ, Nat.mul_comm (mo_d x n)]
    rfl
theorem v_self {x n : Nat} (h : x < 65536 ^ n) : mo_v (mo_d x) n = x := by rw [v_mod, Nat.mod_eq_of_lt h]
theorem v_fL {t : Nat → Nat} {n X : Nat} (h : ∀ j, j < n → t j < 65536) (e : mo_v t n = X) : ∀ j, j < n → fL_ t j = mo_D X j := fun j hj => by
  unfold mo_D fL_ mo_d
  rw [← e, v_dig t n h j hj]
/-- one step of the inner loop of 'multiply' -/
theorem mul_in (x y c i j N : Nat) (t : Nat → Nat) (ht : ∀ q, t q < 65536) (hc : c < 65536) (hij : i + j < N) (hv : mo_v t N + c * 65536 ^ (i + j) = (x % 65536 ^ i) * y + mo_d x i * (y % 65536 ^ j) * 65536 ^ i) :
    mo_v (nu_ t (i + j) ((t (i + j) + mo_d x i * mo_d y j + c) % 65536)) N + ((t (i + j) + mo_d x i * mo_d y j + c) / 65536) * 65536 ^ (i + (j + 1)) = (x % 65536 ^ i) * y + mo_d x i * (y % 65536 ^ (j + 1)) * 65536 ^ i := by
  have e1 := v_upd t (i + j) ((t (i + j) + mo_d x i * mo_d y j + c) % 65536) N hij
  generalize hS : t (i + j) + mo_d x i * mo_d y j + c = S at e1 ⊢
  have e2 : 65536 * (S / 65536) + S % 65536 = S := Nat.div_add_mod S 65536
  have e3 : y % 65536 ^ (j + 1) = y % 65536 ^ j + 65536 ^ j * mo_d y j := Nat.mod_pow_succ
  have eP : 65536 ^ (i + j) = 65536 ^ i * 65536 ^ j := Nat.pow_add _ _ _
  have eQ : 65536 ^ (i + (j + 1)) = 65536 ^ (i + j) * 65536 := by rw [← Nat.add_assoc, Nat.pow_succ]
  have g1 : mo_d x i * (y % 65536 ^ (j + 1)) * 65536 ^ i = mo_d x i * (y % 65536 ^ j) * 65536 ^ i + (mo_d x i * mo_d y j) * 65536 ^ (i + j) := by
    rw [e3, Nat.mul_add, Nat.add_mul, eP]
    congr 1
    rw [Nat.mul_comm (65536 ^ j) (mo_d y j), ← Nat.mul_assoc, Nat.mul_assoc _ (65536 ^ j), Nat.mul_comm (65536 ^ j)]
  generalize 65536 ^ (i + j) = P at *
  have g2 : S * P = 65536 * (S / 65536 * P) + S % 65536 * P := by
    have := congrArg (fun z => z * P) e2
    simp only at this
    rw [← this, Nat.add_mul, Nat.mul_assoc]
  have g3 : S * P = t (i + j) * P + (mo_d x i * mo_d y j) * P + c * P := by rw [← hS, Nat.add_mul, Nat.add_mul]
  have g4 : S / 65536 * (P * 65536) = 65536 * (S / 65536 * P) := by rw [← Nat.mul_assoc, Nat.mul_comm]
  rw [eQ, g4, g1]
  omega
theorem mul_S (x y c i j : Nat) (t : Nat → Nat) (ht : ∀ q, t q < 65536) (hc : c < 65536) : t (i + j) + mo_d x i * mo_d y j + c < 4294967296 := by
  have h1 := mo_d_lt x i
  have h2 := mo_d_lt y j
  have h3 := ht (i + j)
  have : mo_d x i * mo_d y j ≤ 65535 * 65535 := Nat.mul_le_mul (by omega) (by omega)
  omega
/-- the end of the inner loop -/
theorem mul_out (x y c i m N : Nat) (t : Nat → Nat) (hy : y < 65536 ^ m) (hz : t (i + m) = 0) (him : i + m < N) (hv : mo_v t N + c * 65536 ^ (i + m) = (x % 65536 ^ i) * y + mo_d x i * (y % 65536 ^ m) * 65536 ^ i) :
    mo_v (nu_ t (i + m) c) N = (x % 65536 ^ (i + 1)) * y := by
  have e1 := v_upd t (i + m) c N him
  rw [hz, Nat.zero_mul, Nat.add_zero, hv, Nat.mod_eq_of_lt hy] at e1
  rw [e1, Nat.mod_pow_succ, Nat.add_mul]
  congr 1
  show mo_d x i * y * 65536 ^ i = 65536 ^ i * mo_d x i * y
  rw [Nat.mul_comm _ (65536 ^ i), Nat.mul_assoc]
-- Int64
theorem lN_and16 (S : Nat) (h : S < 2 ^ 62) : lN S &&& 65535 = lN (S % 65536) := by
  apply Int64.toBitVec_inj.mp
  apply BitVec.eq_of_toNat_eq
  rw [Int64.toBitVec_and, BitVec.toNat_and]
  show S % 2 ^ 64 &&& 65535 = S % 65536 % 2 ^ 64
  rw [Nat.mod_eq_of_lt (show S < 2 ^ 64 by omega), Nat.mod_eq_of_lt (show S % 65536 < 2 ^ 64 by omega)]
  exact Nat.and_two_pow_sub_one_eq_mod S 16
theorem lN_shr16 (S : Nat) (h : S < 2 ^ 62) : xm_r (lN S) 16 = lN (S / 65536) := by
  apply Int64.toInt_inj.mp
  show (lN S >>> (((16 : Int32).toInt64) &&& 63)).toInt = _
  have e1 : (lN S).toInt = (S : Int) := pk_lT (by omega)
  have e2 : (lN (S / 65536)).toInt = ((S / 65536 : Nat) : Int) := pk_lT (by omega)
  rw [e2, ← Int64.toInt_toBitVec, Int64.toBitVec_shiftRight, BitVec.sshiftRight_eq', show (((16 : Int32).toInt64 &&& 63).toBitVec.smod 64).toNat = 16 by decide, BitVec.toInt_sshiftRight, Int64.toInt_toBitVec, e1]
  show ((S : Int) >>> 16) = _
  rw [Int.shiftRight_eq_div_pow]
  omega
theorem lN_shl (S k : Nat) (hk : k < 64) : xm_l (lN S) (nI k) = lN (S * 2 ^ k) := q_ext (fun i hi => by
  rw [q_shl k hk _ hi]
  show (decide (k ≤ i) && (BitVec.ofNat 64 S).getLsbD (i - k)) = (BitVec.ofNat 64 (S * 2 ^ k)).getLsbD i
  rw [BitVec.getLsbD_ofNat, BitVec.getLsbD_ofNat, Nat.testBit_mul_two_pow]
  simp [hi]
  intro _ _
  omega)
theorem lN_or {b a k : Nat} (ha : a < 2 ^ k) (h : b * 2 ^ k + a < 2 ^ 64) : lN (b * 2 ^ k) ||| lN a = lN (b * 2 ^ k + a) := by
  apply Int64.toBitVec_inj.mp
  apply BitVec.eq_of_toNat_eq
  rw [Int64.toBitVec_or, BitVec.toNat_or]
  show (b * 2 ^ k) % 2 ^ 64 ||| a % 2 ^ 64 = (b * 2 ^ k + a) % 2 ^ 64
  rw [Nat.mod_eq_of_lt (by omega), Nat.mod_eq_of_lt (by omega), Nat.mod_eq_of_lt h, ← Nat.shiftLeft_eq, Nat.shiftLeft_add_eq_or_of_lt ha]
/-- the content of a cell counts up to its length -/
theorem xk_congL {D : va_G} {cl : List vw_C} {ws : va_W} {H : Heap} {a : Nat} {c : ClassId} {n : Nat} {f g : Nat → Int64} (hP : va_P D cl ws H) (q : Nat) (hq : ws[q]? = some (a, .inl (c, n, .inr (.inl f)))) (h : ∀ j, j < n → f j = g j) : va_P D cl (ws.set q (a, .inl (c, n, .inr (.inl g)))) H := by
  intro k e hk
  by_cases hqk : q = k
  · subst hqk
    have hl : q < ws.length := (List.getElem?_eq_some_iff.mp hq).1
    rw [List.getElem?_set_self hl] at hk
    cases hk
    have h0 := hP q _ hq
    show H[a]? = some (vp_cell c (n, .inr (.inl g)))
    rw [show H[a]? = some (vp_cell c (n, .inr (.inl f))) from h0]
    congr 1
    show arrV c n (fun j => .long (f j)) = arrV c n (fun j => .long (g j))
    unfold arrV
    congr 2
    funext j
    rw [h j.val j.isLt]
  · rw [List.getElem?_set_ne hqk] at hk
    exact hP k e hk
