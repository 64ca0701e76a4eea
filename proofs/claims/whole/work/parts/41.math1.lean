/-! MATHEMATICS 1: bits. The family bt out of laws/BITS.to-paste; then the same for 64 bits; pairs, turns, sums -/
def bt (x : Int32) (i : Nat) : Bool := x.toBitVec.getLsbD i
theorem b_ext {x y : Int32} (h : ∀ i, i < 32 → bt x i = bt y i) : x = y := Int32.toBitVec_inj.mp (BitVec.eq_of_getLsbD_eq (fun i hi => h i hi))
theorem b_or (x y : Int32) (i : Nat) : bt (x ||| y) i = (bt x i || bt y i) := by unfold bt; rw [Int32.toBitVec_or, BitVec.getLsbD_or]
theorem b_and (x y : Int32) (i : Nat) : bt (x &&& y) i = (bt x i && bt y i) := by unfold bt; rw [Int32.toBitVec_and, BitVec.getLsbD_and]
theorem b_xor (x y : Int32) (i : Nat) : bt (x ^^^ y) i = (bt x i ^^ bt y i) := by unfold bt; rw [Int32.toBitVec_xor, BitVec.getLsbD_xor]
theorem b_big {x : Int32} {i : Nat} (h : 32 ≤ i) : bt x i = false := BitVec.getLsbD_of_ge _ _ h
theorem b_255 (i : Nat) : bt 255 i = decide (i < 8) := by
  rcases Nat.lt_or_ge i 32 with h | h
  · exact (by decide +kernel : ∀ i, i < 32 → bt 255 i = decide (i < 8)) i h
  · rw [b_big h, decide_eq_false (by omega)]
theorem b_65535 (i : Nat) : bt 65535 i = decide (i < 16) := by
  rcases Nat.lt_or_ge i 32 with h | h
  · exact (by decide +kernel : ∀ i, i < 32 → bt 65535 i = decide (i < 16)) i h
  · rw [b_big h, decide_eq_false (by omega)]
theorem b_m1 : ∀ i, i < 32 → bt (-1) i = true := by decide +kernel
theorem b_0 (i : Nat) : bt 0 i = false := BitVec.getLsbD_zero
theorem s_l : ∀ n, n < 32 → ((nI n &&& 31).toBitVec.smod 32).toNat = n := by decide +kernel
theorem s_u : ∀ n, n < 32 → (((nI n).toUInt32 &&& Int32.toUInt32 31).toBitVec % 32).toNat = n := by decide +kernel
theorem b_shl (n : Nat) (hn : n < 32) (x : Int32) {i : Nat} (hi : i < 32) : bt (x <<< (nI n &&& 31)) i = (decide (n ≤ i) && bt x (i - n)) := by
  unfold bt
  rw [Int32.toBitVec_shiftLeft]
  show (x.toBitVec <<< ((nI n &&& 31).toBitVec.smod 32).toNat).getLsbD i = _
  rw [s_l n hn, BitVec.getLsbD_shiftLeft]
  rcases Nat.lt_or_ge i n with h | h
  · simp [h, Nat.not_le.mpr h]
  · simp [hi, h, Nat.not_lt.mpr h]
theorem b_ushr (n : Nat) (hn : n < 32) (x : Int32) (i : Nat) : bt ((x.toUInt32 >>> ((nI n).toUInt32 &&& Int32.toUInt32 31)).toInt32) i = bt x (n + i) := by
  show (x.toUInt32 >>> ((nI n).toUInt32 &&& Int32.toUInt32 31)).toBitVec.getLsbD i = x.toUInt32.toBitVec.getLsbD (n + i)
  rw [UInt32.toBitVec_shiftRight]
  show (x.toUInt32.toBitVec >>> (((nI n).toUInt32 &&& Int32.toUInt32 31).toBitVec % 32).toNat).getLsbD i = _
  rw [s_u n hn, BitVec.getLsbD_ushiftRight]
theorem b_shl8 (x : Int32) {i : Nat} (hi : i < 32) : bt (x <<< ((8 : Int32) &&& 31)) i = (decide (8 ≤ i) && bt x (i - 8)) := b_shl 8 (by omega) x hi
theorem b_shl24 (x : Int32) {i : Nat} (hi : i < 32) : bt (x <<< ((24 : Int32) &&& 31)) i = (decide (24 ≤ i) && bt x (i - 24)) := b_shl 24 (by omega) x hi
def bq (x : Int64) (i : Nat) : Bool := x.toBitVec.getLsbD i
theorem q_ext {x y : Int64} (h : ∀ i, i < 64 → bq x i = bq y i) : x = y := Int64.toBitVec_inj.mp (BitVec.eq_of_getLsbD_eq (fun i hi => h i hi))
theorem q_or (x y : Int64) (i : Nat) : bq (x ||| y) i = (bq x i || bq y i) := by unfold bq; rw [Int64.toBitVec_or, BitVec.getLsbD_or]
theorem q_and (x y : Int64) (i : Nat) : bq (x &&& y) i = (bq x i && bq y i) := by unfold bq; rw [Int64.toBitVec_and, BitVec.getLsbD_and]
theorem q_xor (x y : Int64) (i : Nat) : bq (x ^^^ y) i = (bq x i ^^ bq y i) := by unfold bq; rw [Int64.toBitVec_xor, BitVec.getLsbD_xor]
theorem q_big {x : Int64} {i : Nat} (h : 64 ≤ i) : bq x i = false := BitVec.getLsbD_of_ge _ _ h
theorem q_m1 : ∀ i, i < 64 → bq (-1) i = true := by decide +kernel
theorem q_ff : ∀ i, i < 64 → bq 4294967295 i = decide (i < 32) := by decide +kernel
theorem qs_l : ∀ n, n < 64 → (((nI n).toInt64 &&& 63).toBitVec.smod 64).toNat = n := by decide +kernel
theorem qs_u : ∀ n, n < 64 → (((nI n).toInt64.toUInt64 &&& Int64.toUInt64 63).toBitVec % 64).toNat = n := by decide +kernel
theorem q_shl (n : Nat) (hn : n < 64) (x : Int64) {i : Nat} (hi : i < 64) : bq (xm_l x (nI n)) i = (decide (n ≤ i) && bq x (i - n)) := by
  unfold bq xm_l
  rw [Int64.toBitVec_shiftLeft]
  show (x.toBitVec <<< (((nI n).toInt64 &&& 63).toBitVec.smod 64).toNat).getLsbD i = _
  rw [qs_l n hn, BitVec.getLsbD_shiftLeft]
  rcases Nat.lt_or_ge i n with h | h
  · simp [h, Nat.not_le.mpr h]
  · simp [hi, h, Nat.not_lt.mpr h]
theorem q_ushr (n : Nat) (hn : n < 64) (x : Int64) (i : Nat) : bq (xm_u x (nI n)) i = bq x (n + i) := by
  show (x.toUInt64 >>> ((nI n).toInt64.toUInt64 &&& Int64.toUInt64 63)).toBitVec.getLsbD i = x.toUInt64.toBitVec.getLsbD (n + i)
  rw [UInt64.toBitVec_shiftRight]
  show (x.toUInt64.toBitVec >>> (((nI n).toInt64.toUInt64 &&& Int64.toUInt64 63).toBitVec % 64).toNat).getLsbD i = _
  rw [qs_u n hn, BitVec.getLsbD_ushiftRight]
theorem q_sshr (n : Nat) (hn : n < 64) (x : Int64) {i : Nat} (hi : i < 64) : bq (xm_r x (nI n)) i = if n + i < 64 then bq x (n + i) else bq x 63 := by
  unfold bq xm_r
  rw [Int64.toBitVec_shiftRight]
  show (x.toBitVec.sshiftRight (((nI n).toInt64 &&& 63).toBitVec.smod 64).toNat).getLsbD i = _
  rw [qs_l n hn, BitVec.getLsbD_sshiftRight, BitVec.msb_eq_getLsbD_last]
  simp [hi]
theorem q_i2l (x : Int32) {i : Nat} (hi : i < 64) : bq x.toInt64 i = if i < 32 then bt x i else bt x 31 := by
  show (x.toBitVec.signExtend 64).getLsbD i = _
  rw [BitVec.getLsbD_signExtend, BitVec.msb_eq_getLsbD_last]
  simp [hi, bt]
theorem b_l2i (x : Int64) {i : Nat} (hi : i < 32) : bt x.toInt32 i = bq x i := by
  show (x.toBitVec.signExtend 32).getLsbD i = _
  rw [BitVec.getLsbD_signExtend, if_pos (show i < 64 by omega)]
  simp [hi, bq]
theorem q_of (u w : Int32) {i : Nat} (hi : i < 64) : bq (mo_of u w) i = if i < 32 then bt w i else bt u (i - 32) := by
  show bq (xm_l (Int32.toInt64 u) (nI 32) ||| ((Int32.toInt64 w) &&& 4294967295)) i = _
  rw [q_or, q_shl 32 (by omega) _ hi, q_and, q_ff i hi, q_i2l w hi]
  by_cases h : i < 32
  · simp [h, Nat.not_le.mpr h]
  · rw [q_i2l u (by omega), if_pos (by omega)]
    simp [h, Nat.not_lt.mp h]
theorem of_lo (u w : Int32) : (mo_of u w).toInt32 = w := b_ext (fun i hi => by rw [b_l2i _ hi, q_of u w (by omega), if_pos hi])
theorem of_hi (u w : Int32) : (xm_r (mo_of u w) 32).toInt32 = u := b_ext (fun i hi => by
  rw [b_l2i _ hi]
  show bq (xm_r (mo_of u w) (nI 32)) i = _
  rw [q_sshr 32 (by omega) _ (by omega), if_pos (by omega), q_of u w (by omega), if_neg (by omega), Nat.add_sub_cancel_left])
theorem of_eta (v : Int64) : mo_of (xm_r v 32).toInt32 v.toInt32 = v := q_ext (fun i hi => by
  rw [q_of _ _ hi]
  by_cases h : i < 32
  · rw [if_pos h, b_l2i _ h]
  · rw [if_neg h, b_l2i _ (by omega)]
    show bq (xm_r v (nI 32)) (i - 32) = _
    rw [q_sshr 32 (by omega) _ (by omega), if_pos (by omega), show 32 + (i - 32) = i by omega])
theorem of_inj {u w u' w' : Int32} (h : mo_of u w = mo_of u' w') : u = u' ∧ w = w' := by
  have h1 := of_hi u w
  have h2 := of_lo u w
  rw [h, of_hi] at h1
  rw [h, of_lo] at h2
  exact ⟨h1.symm, h2.symm⟩
theorem of_xor (a b c d : Int32) : mo_of (a ^^^ b) (c ^^^ d) = mo_of a c ^^^ mo_of b d := q_ext (fun i hi => by
  rw [q_xor, q_of _ _ hi, q_of _ _ hi, q_of _ _ hi]
  by_cases h : i < 32 <;> simp [h, b_xor])
theorem of_and (a b c d : Int32) : mo_of (a &&& b) (c &&& d) = mo_of a c &&& mo_of b d := q_ext (fun i hi => by
  rw [q_and, q_of _ _ hi, q_of _ _ hi, q_of _ _ hi]
  by_cases h : i < 32 <;> simp [h, b_and])
theorem of_not (a c : Int32) : mo_of (a ^^^ (-1)) (c ^^^ (-1)) = mo_of a c ^^^ (-1) := q_ext (fun i hi => by
  rw [q_xor, q_of _ _ hi, q_of _ _ hi, q_m1 i hi]
  by_cases h : i < 32
  · rw [if_pos h, if_pos h, b_xor, b_m1 i h]
  · rw [if_neg h, if_neg h, b_xor, b_m1 (i - 32) (by omega)])
-- turns
theorem b_moved (u w : Int32) (p : Nat) (hp : p < 32) {i : Nat} (hi : i < 32) : bt (jc_moved u w (nI p)) i = if i + p < 32 then bt w (i + p) else bt u (i + p - 32) := by
  show bt ((w.toUInt32 >>> ((nI p).toUInt32 &&& Int32.toUInt32 31)).toInt32 ||| ((u <<< (nI 1 &&& 31)) <<< ((nI 31 - nI p) &&& 31))) i = _
  rw [b_or, b_ushr p hp, pk_sub (show p ≤ 31 by omega), b_shl (31 - p) (by omega) _ hi, b_shl 1 (by omega) _ (by omega)]
  by_cases h : i + p < 32
  · rw [if_pos h]
    have h2 : (decide (31 - p ≤ i) && (decide (1 ≤ i - (31 - p)) && bt u (i - (31 - p) - 1))) = false := by
      by_cases h3 : 31 - p ≤ i
      · rw [decide_eq_false (show ¬ 1 ≤ i - (31 - p) by omega)]; simp
      · rw [decide_eq_false h3]; simp
    rw [h2, Bool.or_false, Nat.add_comm]
  · rw [if_neg h, b_big (show 32 ≤ p + i by omega), decide_eq_true (show 31 - p ≤ i by omega), decide_eq_true (show 1 ≤ i - (31 - p) by omega), show i - (31 - p) - 1 = i + p - 32 by omega]
    simp
theorem tu_moved (u w n : Int32) (h1 : n &&& 32 = 0) (h2 : n &&& 31 = n) : jc_turned w u n = jc_moved u w n := by
  unfold jc_turned
  rw [if_pos h1, h2]
theorem tn_31 : ∀ k, k < 64 → nI k &&& 31 = nI (k % 32) := by decide +kernel
theorem tn_32 : ∀ k, k < 64 → (nI k &&& 32 = 0 ↔ k < 32) := by decide +kernel
theorem tn_a31 (n : Int32) : n &&& 31 = (n &&& 63) &&& 31 := b_ext (fun i hi => by
  rw [b_and, b_and, b_and]
  have h : (bt 63 i && bt 31 i) = bt 31 i := (by decide +kernel : ∀ i, i < 32 → (bt 63 i && bt 31 i) = bt 31 i) i hi
  rw [Bool.and_assoc, h])
theorem tn_a32 (n : Int32) : n &&& 32 = (n &&& 63) &&& 32 := b_ext (fun i hi => by
  rw [b_and, b_and, b_and]
  have h : (bt 63 i && bt 32 i) = bt 32 i := (by decide +kernel : ∀ i, i < 32 → (bt 63 i && bt 32 i) = bt 32 i) i hi
  rw [Bool.and_assoc, h])
theorem tn_k (n : Int32) : ∃ k, k < 64 ∧ n &&& 63 = nI k := pk_andE n 6 (by decide)
theorem b_turned (u w n : Int32) {k : Nat} (hk : k < 64) (hn : n &&& 63 = nI k) {i : Nat} (hi : i < 32) : bt (jc_turned u w n) i = bq (mo_of u w) ((32 + i + k) % 64) := by
  have e1 : n &&& 31 = nI (k % 32) := by rw [tn_a31, hn, tn_31 k hk]
  have e2 : (n &&& 32 = 0) ↔ k < 32 := by rw [tn_a32, hn]; exact tn_32 k hk
  unfold jc_turned
  rw [e1]
  by_cases h : k < 32
  · rw [if_pos (e2.mpr h), b_moved w u (k % 32) (Nat.mod_lt _ (by omega)) hi, q_of u w (Nat.mod_lt _ (by omega))]
    by_cases h2 : i + k % 32 < 32
    · rw [if_pos h2, if_neg (by omega)]; congr 1; omega
    · rw [if_neg h2, if_pos (by omega)]; congr 1; omega
  · rw [if_neg (fun q => h (e2.mp q)), b_moved u w (k % 32) (Nat.mod_lt _ (by omega)) hi, q_of u w (Nat.mod_lt _ (by omega))]
    by_cases h2 : i + k % 32 < 32
    · rw [if_pos h2, if_pos (by omega)]; congr 1; omega
    · rw [if_neg h2, if_neg (by omega)]; congr 1; omega
theorem q_right (v : Int64) (n : Int32) {k : Nat} (hk : k < 64) (hn : n &&& 63 = nI k) {i : Nat} (hi : i < 64) : bq (mo_right v n) i = bq v ((i + k) % 64) := by
  unfold mo_right
  rw [hn]
  by_cases h : k = 0
  · subst h
    rw [if_pos (show nI 0 = 0 from rfl), Nat.add_zero, Nat.mod_eq_of_lt hi]
  · rw [if_neg (nI_ne0 (by omega) (by omega)), q_or, q_ushr k hk]
    show (bq v (k + i) || bq (xm_l v (nI 64 - nI k)) i) = _
    rw [pk_sub (by omega), q_shl (64 - k) (by omega) _ hi]
    by_cases h2 : i + k < 64
    · rw [decide_eq_false (show ¬ 64 - k ≤ i by omega), Nat.mod_eq_of_lt h2, Nat.add_comm]; simp
    · rw [q_big (show 64 ≤ k + i by omega), decide_eq_true (show 64 - k ≤ i by omega), show i - (64 - k) = (i + k) % 64 by omega]; simp
theorem of_turned (u w n n' : Int32) (h : n &&& 63 = n' &&& 63) : mo_of (jc_turned u w n) (jc_turned w u n) = mo_right (mo_of u w) n' := by
  obtain ⟨k, hk, hn⟩ := tn_k n
  refine q_ext (fun i hi => ?_)
  rw [q_right _ n' hk (by rw [← h]; exact hn) hi, q_of _ _ hi]
  by_cases h2 : i < 32
  · rw [if_pos h2, b_turned w u n hk hn h2, q_of w u (Nat.mod_lt _ (by omega)), q_of u w (Nat.mod_lt _ (by omega))]
    by_cases h3 : (i + k) % 64 < 32
    · rw [if_pos h3, if_neg (by omega)]; congr 1; omega
    · rw [if_neg h3, if_pos (by omega)]; congr 1; omega
  · rw [if_neg h2, b_turned u w n hk hn (by omega), show (32 + (i - 32) + k) % 64 = (i + k) % 64 by congr 1; omega]
theorem of_moved (u w : Int32) (k : Nat) (hk : k < 32) : mo_of (xj_u u (nI k)) (jc_moved u w (nI k)) = xm_u (mo_of u w) (nI k) := q_ext (fun i hi => by
  rw [q_ushr k (by omega), q_of _ _ hi]
  by_cases h : i < 32
  · rw [if_pos h, b_moved u w k hk h, q_of u w (by omega)]
    by_cases h2 : i + k < 32
    · rw [if_pos h2, if_pos (by omega), Nat.add_comm]
    · rw [if_neg h2, if_neg (by omega), Nat.add_comm k i]
  · rw [if_neg h]
    show bt ((u.toUInt32 >>> ((nI k).toUInt32 &&& Int32.toUInt32 31)).toInt32) (i - 32) = _
    rw [b_ushr k hk]
    by_cases h2 : k + i < 64
    · rw [q_of u w h2, if_neg (by omega)]; congr 1; omega
    · rw [q_big (by omega), b_big (by omega)])
-- sums
theorem of_nat (u w : Int32) : (mo_of u w).toBitVec.toNat = u.toBitVec.toNat * 4294967296 + w.toBitVec.toNat := by
  have e : (mo_of u w).toBitVec = u.toBitVec ++ w.toBitVec := BitVec.eq_of_getLsbD_eq (fun i hi => by
    have h := q_of u w hi
    unfold bq bt at h
    rw [h, BitVec.getLsbD_append])
  rw [e, BitVec.toNat_append, Nat.shiftLeft_eq, ← Nat.shiftLeft_eq, ← Nat.shiftLeft_add_eq_or_of_lt w.toBitVec.isLt, Nat.shiftLeft_eq]
theorem bt_msb (x : Int32) : bt x 31 = decide (2147483648 ≤ x.toBitVec.toNat) := by
  have h : x.toBitVec.msb = decide (2 ^ (32 - 1) ≤ x.toBitVec.toNat) := BitVec.msb_eq_decide _
  rw [BitVec.msb_eq_getLsbD_last] at h
  exact h
theorem carry_nat (c d : Int32) : (jc_carry c d).toBitVec.toNat = (c.toBitVec.toNat + d.toBitVec.toNat) / 4294967296 := by
  have hc := c.toBitVec.isLt
  have hd := d.toBitVec.isLt
  have hs : (c + d).toBitVec.toNat = (c.toBitVec.toNat + d.toBitVec.toNat) % 4294967296 := by rw [Int32.toBitVec_add, BitVec.toNat_add]
  have e : jc_carry c d = if 4294967296 ≤ c.toBitVec.toNat + d.toBitVec.toNat then 1 else 0 := b_ext (fun i hi => by
    show bt ((((c &&& d) ||| ((c ||| d) &&& ((c + d) ^^^ (-1)))).toUInt32 >>> ((nI 31).toUInt32 &&& Int32.toUInt32 31)).toInt32) i = _
    rw [b_ushr 31 (by omega)]
    by_cases h0 : i = 0
    · subst h0
      rw [b_or, b_and, b_and, b_or, b_xor, b_m1 31 (by omega), bt_msb, bt_msb, bt_msb, hs]
      by_cases h1 : 4294967296 ≤ c.toBitVec.toNat + d.toBitVec.toNat
      · rw [if_pos h1, show bt 1 0 = true by decide]
        by_cases a : 2147483648 ≤ c.toBitVec.toNat <;> by_cases b : 2147483648 ≤ d.toBitVec.toNat <;> by_cases z : 2147483648 ≤ (c.toBitVec.toNat + d.toBitVec.toNat) % 4294967296 <;> simp [a, b, z] <;> omega
      · rw [if_neg h1, b_0]
        by_cases a : 2147483648 ≤ c.toBitVec.toNat <;> by_cases b : 2147483648 ≤ d.toBitVec.toNat <;> by_cases z : 2147483648 ≤ (c.toBitVec.toNat + d.toBitVec.toNat) % 4294967296 <;> simp [a, b, z] <;> omega
    · rw [b_big (by omega)]
      by_cases h1 : 4294967296 ≤ c.toBitVec.toNat + d.toBitVec.toNat
      · rw [if_pos h1]
        exact ((by decide +kernel : ∀ i, i < 32 → i ≠ 0 → false = bt 1 i) i hi h0)
      · rw [if_neg h1, b_0])
  rw [e]
  by_cases h1 : 4294967296 ≤ c.toBitVec.toNat + d.toBitVec.toNat
  · rw [if_pos h1]
    show 1 = _
    omega
  · rw [if_neg h1]
    show 0 = _
    omega
theorem of_add (a b c d : Int32) : mo_of (a + (b + jc_carry c d)) (c + d) = mo_of a c + mo_of b d := by
  apply Int64.toBitVec_inj.mp
  apply BitVec.eq_of_toNat_eq
  have ha := a.toBitVec.isLt
  have hb := b.toBitVec.isLt
  have hc := c.toBitVec.isLt
  have hd := d.toBitVec.isLt
  rw [Int64.toBitVec_add, BitVec.toNat_add, of_nat, of_nat, of_nat, Int32.toBitVec_add, BitVec.toNat_add, Int32.toBitVec_add, BitVec.toNat_add, Int32.toBitVec_add, BitVec.toNat_add, carry_nat]
  omega
