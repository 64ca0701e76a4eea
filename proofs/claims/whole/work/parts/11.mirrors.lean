/-! MIRRORS of the class: what its methods do to rows, word for word -/
def xj_u (x y : Int32) : Int32 := (x.toUInt32 >>> (y.toUInt32 &&& Int32.toUInt32 31)).toInt32
def xm_l (x : Int64) (y : Int32) : Int64 := x <<< (y.toInt64 &&& 63)
def xm_r (x : Int64) (y : Int32) : Int64 := x >>> (y.toInt64 &&& 63)
def xm_u (x : Int64) (y : Int32) : Int64 := (x.toUInt64 >>> (y.toInt64.toUInt64 &&& Int64.toUInt64 63)).toInt64
def jc_carry (a b : Int32) : Int32 := xj_u ((a &&& b) ||| ((a ||| b) &&& ((a + b) ^^^ (-1)))) 31
def jc_moved (u w n : Int32) : Int32 := (xj_u w n) ||| ((u <<< ((1 : Int32) &&& 31)) <<< ((31 - n) &&& 31))
def jc_turned (u w n : Int32) : Int32 := if (n &&& 32) = 0 then jc_moved w u (n &&& 31) else jc_moved u w (n &&& 31)
def jc_words (k : Int32) : Int32 := if k = 1 then 16 else if k = 2 then 12 else if k = 3 then 2 else 0
def jc_addTo (f : Nat → Int32) (k : Nat) (u w : Int32) : Nat → Int32 := upd (upd f k (f k + (u + jc_carry (f (k + 1)) w))) (k + 1) ((upd f k (f k + (u + jc_carry (f (k + 1)) w))) (k + 1) + w)
def jc_SA (u w : Int32) : Int32 := (jc_turned u w 28 ^^^ jc_turned u w 34) ^^^ jc_turned u w 39
def jc_SE (u w : Int32) : Int32 := (jc_turned u w 14 ^^^ jc_turned u w 18) ^^^ jc_turned u w 41
def jc_ch (f : Nat → Int32) (k : Nat) : Int32 := (f (8 + k) &&& f (10 + k)) ^^^ ((f (8 + k) ^^^ (-1)) &&& f (12 + k))
def jc_mj (f : Nat → Int32) (k : Nat) : Int32 := ((f (0 + k) &&& f (2 + k)) ^^^ (f (0 + k) &&& f (4 + k))) ^^^ (f (2 + k) &&& f (4 + k))
def jc_ext1 (f : Nat → Int32) (k : Nat) : Nat → Int32 := upd (upd f k (f (k - 32))) (k + 1) ((upd f k (f (k - 32))) (k - 31))
def jc_ext2 (g : Nat → Int32) (k : Nat) (u w : Int32) : Nat → Int32 := jc_addTo g k ((jc_turned u w 1 ^^^ jc_turned u w 8) ^^^ xj_u u 7) ((jc_turned w u 1 ^^^ jc_turned w u 8) ^^^ jc_turned w u 7)
def jc_ext3 (g : Nat → Int32) (k : Nat) : Nat → Int32 := jc_addTo g k (g (k - 14)) (g (k - 13))
def jc_ext4 (g : Nat → Int32) (k : Nat) (u w : Int32) : Nat → Int32 := jc_addTo g k ((jc_turned u w 19 ^^^ jc_turned u w 61) ^^^ xj_u u 6) ((jc_turned w u 19 ^^^ jc_turned w u 61) ^^^ jc_turned w u 6)
def jc_extend (f : Nat → Int32) (k : Nat) : Nat → Int32 := jc_ext4 (jc_ext3 (jc_ext2 (jc_ext1 f k) k (f (k - 30)) (f (k - 29))) k) k (f (k - 4)) (f (k - 3))
def jc_r1 (f : Nat → Int32) : Nat → Int32 := jc_addTo f 14 (jc_SE (f 8) (f 9)) (jc_SE (f 9) (f 8))
def jc_r2 (f : Nat → Int32) : Nat → Int32 := jc_addTo f 14 (jc_ch f 0) (jc_ch f 1)
def jc_r3 (f g : Nat → Int32) (k : Nat) : Nat → Int32 := jc_addTo f 14 (g k) (g (k + 1))
def jc_r4 (f : Nat → Int32) : Nat → Int32 := upd (upd (jc_addTo (va_cpy f f 0 2 14) 8 (f 14) (f 15)) 0 (f 14)) 1 (f 15)
def jc_r5 (f : Nat → Int32) : Nat → Int32 := jc_addTo f 0 (jc_SA (f 2) (f 3)) (jc_SA (f 3) (f 2))
def jc_r6 (f g : Nat → Int32) : Nat → Int32 := jc_addTo (jc_r5 (jc_r4 f)) 0 (jc_mj g 0) (jc_mj g 1)
def jc_rx (cr f g : Nat → Int32) (k : Nat) : Nat → Int32 := jc_r3 (jc_r3 (jc_r2 (jc_r1 f)) cr k) g k
def jc_round (cr f g : Nat → Int32) (k : Nat) : Nat → Int32 := jc_r6 (jc_rx cr f g k) (jc_rx cr f g k)
def jc_exts (f : Nat → Int32) : Nat → (Nat → Int32)
  | 0 => f
  | n + 1 => jc_extend (jc_exts f n) (32 + 2 * n)
def jc_rounds (cr f g : Nat → Int32) : Nat → (Nat → Int32)
  | 0 => f
  | n + 1 => jc_round cr (jc_rounds cr f g n) g (2 * n)
def jc_adds (f g : Nat → Int32) : Nat → (Nat → Int32)
  | 0 => f
  | n + 1 => jc_addTo (jc_adds f g n) (2 * n) (g (2 * n)) (g (2 * n + 1))
def jc_mbS (sch : Nat → Int32) : Nat → Int32 := jc_exts sch 64
def jc_mbL (cr tot lt sch : Nat → Int32) : Nat → Int32 := jc_rounds cr (va_cpy tot lt 0 0 16) (jc_mbS sch) 80
def jc_mbT (cr tot lt sch : Nat → Int32) : Nat → Int32 := jc_adds tot (jc_mbL cr tot lt sch) 8
abbrev xs_S : Type := (Nat → Int32) × (Nat → Int32) × (Nat → Int32) × Nat
def jc_put (f : Nat → Int32) (k : Nat) (b : Int32) : Nat → Int32 := upd f (k / 4) ((f (k / 4) <<< ((8 : Int32) &&& 31)) ||| b)
def jc_mix (cr : Nat → Int32) (S : xs_S) : xs_S := (jc_mbT cr S.1 S.2.1 S.2.2.1, jc_mbL cr S.1 S.2.1 S.2.2.1, jc_mbS S.2.2.1, S.2.2.2)
def jc_take (cr : Nat → Int32) (S : xs_S) (b : Int32) : xs_S :=
  if S.2.2.2 + 1 = 128 then (jc_mbT cr S.1 S.2.1 (jc_put S.2.2.1 S.2.2.2 b), jc_mbL cr S.1 S.2.1 (jc_put S.2.2.1 S.2.2.2 b), jc_mbS (jc_put S.2.2.1 S.2.2.2 b), 0)
  else (S.1, S.2.1, jc_put S.2.2.1 S.2.2.2 b, S.2.2.2 + 1)
def jc_pads (cr : Nat → Int32) (S : xs_S) : Nat → xs_S
  | 0 => S
  | n + 1 => jc_take cr (jc_pads cr S n) 0
def jc_z (n : Int32) : Nat := (111 - n).toBitVec.toNat % 2 ^ 7
def jc_len (f : Nat → Int32) (n : Int32) : Nat → Int32 := upd (upd (upd (upd f 28 0) 29 0) 30 (xj_u n 29)) 31 (n <<< ((3 : Int32) &&& 31))
def jc_endS (cr : Nat → Int32) (S : xs_S) (n : Int32) : xs_S := jc_pads cr (jc_take cr S 128) (jc_z n)
def jc_end (cr : Nat → Int32) (S : xs_S) (n : Int32) : xs_S :=
  (jc_mbT cr (jc_endS cr S n).1 (jc_endS cr S n).2.1 (jc_len (jc_endS cr S n).2.2.1 n), jc_mbL cr (jc_endS cr S n).1 (jc_endS cr S n).2.1 (jc_len (jc_endS cr S n).2.2.1 n), jc_mbS (jc_len (jc_endS cr S n).2.2.1 n), (jc_endS cr S n).2.2.2)
-- SipHash
def jc_left (v : Nat → Int32) (k : Nat) (n : Int32) : Nat → Int32 := upd (upd v k (jc_turned (v k) (v (k + 1)) (-n))) (k + 1) (jc_turned (v (k + 1)) (v k) (-n))
def jc_pair1 (v : Nat → Int32) (i j : Nat) (n : Int32) : Nat → Int32 := jc_left (jc_addTo v i (v j) (v (j + 1))) j n
def jc_xor2 (v : Nat → Int32) (j i : Nat) : Nat → Int32 := upd (upd v j (v j ^^^ v i)) (j + 1) ((upd v j (v j ^^^ v i)) (j + 1) ^^^ (upd v j (v j ^^^ v i)) (i + 1))
def jc_pair (v : Nat → Int32) (i j : Nat) (n : Int32) : Nat → Int32 := jc_xor2 (jc_pair1 v i j n) j i
def jc_sround (v : Nat → Int32) : Nat → Int32 := jc_left (jc_pair (jc_pair (jc_pair (jc_left (jc_pair v 0 2 13) 0 32) 4 6 16) 0 6 21) 4 2 17) 4 32
def jc_srounds (v : Nat → Int32) : Nat → (Nat → Int32)
  | 0 => v
  | n + 1 => jc_sround (jc_srounds v n)
def jc_gx (v : Nat → Int32) (i : Nat) (u w : Int32) : Nat → Int32 := upd (upd v i (v i ^^^ u)) (i + 1) ((upd v i (v i ^^^ u)) (i + 1) ^^^ w)
def jc_group (v : Nat → Int32) (u w : Int32) : Nat → Int32 := jc_gx (jc_sround (jc_sround (jc_gx v 6 u w))) 0 u w
abbrev xp_S : Type := (Nat → Int32) × Int32 × Int32 × Nat
def jc_gl (u w : Int32) : Int32 := jc_turned w u 8
def jc_gh (u b : Int32) : Int32 := (xj_u u 8) ||| (b <<< ((24 : Int32) &&& 31))
def jc_ptake (S : xp_S) (b : Int32) : xp_S :=
  if S.2.2.2 + 1 = 8 then (jc_group S.1 (jc_gh S.2.1 b) (jc_gl S.2.1 S.2.2.1), jc_gh S.2.1 b, jc_gl S.2.1 S.2.2.1, 0)
  else (S.1, jc_gh S.2.1 b, jc_gl S.2.1 S.2.2.1, S.2.2.2 + 1)
def jc_ppads (S : xp_S) : Nat → xp_S
  | 0 => S
  | n + 1 => jc_ptake (jc_ppads S n) 0
def jc_pz (n : Int32) : Nat := (7 - n).toBitVec.toNat % 2 ^ 3
def jc_pendS (S : xp_S) (n : Int32) : xp_S := jc_ptake (jc_ppads S (jc_pz n)) (n &&& 255)
def jc_pend (S : xp_S) (n : Int32) : xp_S := (jc_srounds (upd (jc_pendS S n).1 5 ((jc_pendS S n).1 5 ^^^ 255)) 4, (jc_pendS S n).2.1, (jc_pendS S n).2.2.1, (jc_pendS S n).2.2.2)
def jc_first (fr key v : Nat → Int32) : Nat → (Nat → Int32)
  | 0 => v
  | n + 1 => upd (upd (jc_first fr key v n) (2 * n) (fr (2 * n) ^^^ key (2 * n % 4 + 1))) (2 * n + 1) (fr (2 * n + 1) ^^^ key (2 * n % 4))
def jc_pword (v : Nat → Int32) (i : Nat) : Int32 := ((v (0 + i) ^^^ v (2 + i)) ^^^ v (4 + i)) ^^^ v (6 + i)
theorem xk_i1 {a b : Nat} (h : a + 1 = b) : nI a + Int32.ofInt 1 = nI b := by subst h; exact nI_1 a
theorem xk_i2 {a b : Nat} (h : a + 2 = b) : nI a + Int32.ofInt 2 = nI b := by subst h; exact nI_add a 2
theorem xk_im1 {a b : Nat} (h : b + 1 = a) : nI a + Int32.ofInt (-1) = nI b := by subst h; exact pk_m1 b
/-! MIRRORS of the reference -/
def xb_I (b : Bool) : Int32 := if b then 1 else 0
def mo_of (u w : Int32) : Int64 := (xm_l (Int32.toInt64 u) 32) ||| ((Int32.toInt64 w) &&& 4294967295)
def mo_right (v : Int64) (n : Int32) : Int64 := if (n &&& 63) = 0 then v else (xm_u v (n &&& 63)) ||| (xm_l v (64 - (n &&& 63)))
def mo_left (v : Int64) (n : Int32) : Int64 := mo_right v (64 - n)
def mo_pl (n : Nat) : Nat → Nat → Bool
  | 0, _ => true
  | d + 1, k => if k * k ≤ n then (if n % k = 0 then false else mo_pl n d (k + 1)) else true
def mo_prime (n : Nat) : Bool := mo_pl n n 2
-- a block of SHA-512
def mo_be (rs : Nat → Int32) (t : Nat) : Nat → Int64
  | 0 => 0
  | k + 1 => xm_l (mo_be rs t k) 8 ||| Int32.toInt64 (rs (8 * t + k))
def mo_s0 (a : Int64) : Int64 := (mo_right a 1 ^^^ mo_right a 8) ^^^ xm_u a 7
def mo_s1 (a : Int64) : Int64 := (mo_right a 19 ^^^ mo_right a 61) ^^^ xm_u a 6
def mo_wn (w : Nat → Int64) (t : Nat) : Int64 := ((w (t - 16) + mo_s0 (w (t - 15))) + w (t - 7)) + mo_s1 (w (t - 2))
def mo_ws (w : Nat → Int64) (rs : Nat → Int32) : Nat → (Nat → Int64)
  | 0 => w
  | t + 1 => vp_updL (mo_ws w rs t) t (if t < 16 then mo_be rs t 8 else mo_wn (mo_ws w rs t) t)
def mo_cp (r st : Nat → Int64) : Nat → (Nat → Int64)
  | 0 => r
  | k + 1 => vp_updL (mo_cp r st k) k (st k)
def mo_x (cu w r : Nat → Int64) (a t : Nat) : Int64 := (((r ((a + 7) % 8) + ((mo_right (r ((a + 4) % 8)) 14 ^^^ mo_right (r ((a + 4) % 8)) 18) ^^^ mo_right (r ((a + 4) % 8)) 41)) + ((r ((a + 4) % 8) &&& r ((a + 5) % 8)) ^^^ ((r ((a + 4) % 8) ^^^ (-1)) &&& r ((a + 6) % 8)))) + cu t) + w t
def mo_y (r : Nat → Int64) (a : Nat) : Int64 := ((mo_right (r a) 28 ^^^ mo_right (r a) 34) ^^^ mo_right (r a) 39) + (((r a &&& r ((a + 1) % 8)) ||| (r a &&& r ((a + 2) % 8))) ||| (r ((a + 1) % 8) &&& r ((a + 2) % 8)))
def mo_rd (cu w r : Nat → Int64) (t : Nat) : Nat → Int64 :=
  vp_updL (vp_updL r (((80 - t) % 8 + 3) % 8) (r (((80 - t) % 8 + 3) % 8) + mo_x cu w r ((80 - t) % 8) t)) (((80 - t) % 8 + 7) % 8) (mo_x cu w r ((80 - t) % 8) t + mo_y r ((80 - t) % 8))
def mo_rds (cu w r : Nat → Int64) : Nat → (Nat → Int64)
  | 0 => r
  | t + 1 => mo_rd cu w (mo_rds cu w r t) t
def mo_ad (st r : Nat → Int64) : Nat → (Nat → Int64)
  | 0 => st
  | k + 1 => vp_updL (mo_ad st r k) k (mo_ad st r k k + r k)
def mo_bW (w : Nat → Int64) (rs : Nat → Int32) : Nat → Int64 := mo_ws w rs 80
def mo_bR (cu st w r : Nat → Int64) (rs : Nat → Int32) : Nat → Int64 := mo_rds cu (mo_bW w rs) (mo_cp r st 8) 80
def mo_bS (cu st w r : Nat → Int64) (rs : Nat → Int32) : Nat → Int64 := mo_ad st (mo_bR cu st w r rs) 8
-- SipHash
def mo_q1 (v : Nat → Int64) : Nat → Int64 := vp_updL (vp_updL v 0 (v 0 + v 1)) 2 ((vp_updL v 0 (v 0 + v 1)) 2 + (vp_updL v 0 (v 0 + v 1)) 3)
def mo_q2 (v : Nat → Int64) : Nat → Int64 := vp_updL v 1 (mo_left (v 1) 13 ^^^ v 0)
def mo_q3 (v : Nat → Int64) : Nat → Int64 := vp_updL v 3 (mo_left (v 3) 16 ^^^ v 2)
def mo_q4 (v : Nat → Int64) : Nat → Int64 := vp_updL v 0 (mo_left (v 0) 32)
def mo_q5 (v : Nat → Int64) : Nat → Int64 := vp_updL (vp_updL v 2 (v 2 + v 1)) 0 ((vp_updL v 2 (v 2 + v 1)) 0 + (vp_updL v 2 (v 2 + v 1)) 3)
def mo_q6 (v : Nat → Int64) : Nat → Int64 := vp_updL v 1 (mo_left (v 1) 17 ^^^ v 2)
def mo_q7 (v : Nat → Int64) : Nat → Int64 := vp_updL v 3 (mo_left (v 3) 21 ^^^ v 0)
def mo_q8 (v : Nat → Int64) : Nat → Int64 := vp_updL v 2 (mo_left (v 2) 32)
def mo_sr (v : Nat → Int64) : Nat → Int64 := mo_q8 (mo_q7 (mo_q6 (mo_q5 (mo_q4 (mo_q3 (mo_q2 (mo_q1 v)))))))
def mo_srs (v : Nat → Int64) : Nat → (Nat → Int64)
  | 0 => v
  | k + 1 => mo_sr (mo_srs v k)
def mo_le (rs : Nat → Int32) : Nat → Int64
  | 0 => 0
  | k + 1 => xm_l (mo_le rs k) 8 ||| Int32.toInt64 (rs (7 - k))
def mo_sb (v : Nat → Int64) (rs : Nat → Int32) : Nat → Int64 :=
  vp_updL (mo_srs (vp_updL v 3 (v 3 ^^^ mo_le rs 8)) 2) 0 ((mo_srs (vp_updL v 3 (v 3 ^^^ mo_le rs 8)) 2) 0 ^^^ mo_le rs 8)
abbrev xm_S : Type := (Nat → Int64) × (Nat → Int64) × (Nat → Int64) × (Nat → Int32) × Nat
def mo_take (cu : Nat → Int64) (S : xm_S) (b : Int32) : xm_S :=
  if S.2.2.2.2 + 1 = 128 then (mo_bS cu S.1 S.2.1 S.2.2.1 (upd S.2.2.2.1 S.2.2.2.2 b), mo_bW S.2.1 (upd S.2.2.2.1 S.2.2.2.2 b), mo_bR cu S.1 S.2.1 S.2.2.1 (upd S.2.2.2.1 S.2.2.2.2 b), upd S.2.2.2.1 S.2.2.2.2 b, 0)
  else (S.1, S.2.1, S.2.2.1, upd S.2.2.2.1 S.2.2.2.2 b, S.2.2.2.2 + 1)
theorem mo_take_lt (cu : Nat → Int64) (S : xm_S) (b : Int32) (h : S.2.2.2.2 < 128) : (mo_take cu S b).2.2.2.2 < 128 := by
  by_cases c : S.2.2.2.2 + 1 = 128
  · rw [show mo_take cu S b = _ from if_pos c]; show 0 < 128; omega
  · rw [show mo_take cu S b = _ from if_neg c]; show S.2.2.2.2 + 1 < 128; omega
theorem mo_take_k (cu : Nat → Int64) (S : xm_S) (b : Int32) (h : S.2.2.2.2 < 128) : (mo_take cu S b).2.2.2.2 = (S.2.2.2.2 + 1) % 128 := by
  by_cases c : S.2.2.2.2 + 1 = 128
  · rw [show mo_take cu S b = _ from if_pos c]; show 0 = _; omega
  · rw [show mo_take cu S b = _ from if_neg c]; show S.2.2.2.2 + 1 = _; omega
def mo_pads (cu : Nat → Int64) (S : xm_S) : Nat → xm_S
  | 0 => S
  | n + 1 => mo_take cu (mo_pads cu S n) 0
theorem mo_pads_lt (cu : Nat → Int64) (S : xm_S) (h : S.2.2.2.2 < 128) : ∀ n, (mo_pads cu S n).2.2.2.2 < 128
  | 0 => h
  | n + 1 => mo_take_lt cu _ 0 (mo_pads_lt cu S h n)
theorem mo_pads_k (cu : Nat → Int64) (S : xm_S) (h : S.2.2.2.2 < 128) : ∀ n, (mo_pads cu S n).2.2.2.2 = (S.2.2.2.2 + n) % 128
  | 0 => (Nat.mod_eq_of_lt h).symm
  | n + 1 => by
    show (mo_take cu (mo_pads cu S n) 0).2.2.2.2 = _
    rw [mo_take_k cu _ 0 (mo_pads_lt cu S h n), mo_pads_k cu S h n]
    omega
def mo_lb (ln : Int32) (k : Nat) : Int32 := Int64.toInt32 ((xm_r ((8 : Int64) * Int32.toInt64 ln) (nI (120 - 8 * k))) &&& 255)
def mo_lens (cu : Nat → Int64) (S : xm_S) (ln : Int32) : Nat → xm_S
  | 0 => S
  | k + 1 => mo_take cu (mo_lens cu S ln k) (if k < 8 then 0 else mo_lb ln k)
theorem mo_lens_lt (cu : Nat → Int64) (S : xm_S) (ln : Int32) (h : S.2.2.2.2 < 128) : ∀ n, (mo_lens cu S ln n).2.2.2.2 < 128
  | 0 => h
  | n + 1 => mo_take_lt cu _ _ (mo_lens_lt cu S ln h n)
def mo_ups (cu : Nat → Int64) (S : xm_S) (b st : Int32) : Nat → xm_S
  | 0 => S
  | n + 1 => mo_take cu (mo_ups cu S b st n) ((b + nI n * st) &&& 255)
theorem mo_ups_lt (cu : Nat → Int64) (S : xm_S) (b st : Int32) (h : S.2.2.2.2 < 128) : ∀ n, (mo_ups cu S b st n).2.2.2.2 < 128
  | 0 => h
  | n + 1 => mo_take_lt cu _ _ (mo_ups_lt cu S b st h n)
def mo_endS (cu : Nat → Int64) (S : xm_S) : xm_S := mo_pads cu (mo_take cu S 128) ((240 - (mo_take cu S 128).2.2.2.2) % 128)
def mo_end (cu : Nat → Int64) (S : xm_S) (ln : Int32) : xm_S := mo_lens cu (mo_endS cu S) ln 16
-- SipHash's message
abbrev xq_S : Type := (Nat → Int64) × (Nat → Int32) × Nat
def mo_ptake (S : xq_S) (b : Int32) : xq_S :=
  if S.2.2 + 1 = 8 then (mo_sb S.1 (upd S.2.1 S.2.2 b), upd S.2.1 S.2.2 b, 0)
  else (S.1, upd S.2.1 S.2.2 b, S.2.2 + 1)
theorem mo_ptake_lt (S : xq_S) (b : Int32) (h : S.2.2 < 8) : (mo_ptake S b).2.2 < 8 := by
  by_cases c : S.2.2 + 1 = 8
  · rw [show mo_ptake S b = _ from if_pos c]; show 0 < 8; omega
  · rw [show mo_ptake S b = _ from if_neg c]; show S.2.2 + 1 < 8; omega
theorem mo_ptake_k (S : xq_S) (b : Int32) (h : S.2.2 < 8) : (mo_ptake S b).2.2 = (S.2.2 + 1) % 8 := by
  by_cases c : S.2.2 + 1 = 8
  · rw [show mo_ptake S b = _ from if_pos c]; show 0 = _; omega
  · rw [show mo_ptake S b = _ from if_neg c]; show S.2.2 + 1 = _; omega
def mo_ppads (S : xq_S) : Nat → xq_S
  | 0 => S
  | n + 1 => mo_ptake (mo_ppads S n) 0
theorem mo_ppads_lt (S : xq_S) (h : S.2.2 < 8) : ∀ n, (mo_ppads S n).2.2 < 8
  | 0 => h
  | n + 1 => mo_ptake_lt _ 0 (mo_ppads_lt S h n)
theorem mo_ppads_k (S : xq_S) (h : S.2.2 < 8) : ∀ n, (mo_ppads S n).2.2 = (S.2.2 + n) % 8
  | 0 => (Nat.mod_eq_of_lt h).symm
  | n + 1 => by
    show (mo_ptake (mo_ppads S n) 0).2.2 = _
    rw [mo_ptake_k _ 0 (mo_ppads_lt S h n), mo_ppads_k S h n]
    omega
def mo_pups (S : xq_S) (b st : Int32) : Nat → xq_S
  | 0 => S
  | n + 1 => mo_ptake (mo_pups S b st n) ((b + nI n * st) &&& 255)
theorem mo_pups_lt (S : xq_S) (b st : Int32) (h : S.2.2 < 8) : ∀ n, (mo_pups S b st n).2.2 < 8
  | 0 => h
  | n + 1 => mo_ptake_lt _ _ (mo_pups_lt S b st h n)
def mo_pendS (S : xq_S) (ln : Int32) : xq_S := mo_ptake (mo_ppads S (7 - S.2.2)) (ln &&& 255)
def mo_pfin (v : Nat → Int64) : Nat → Int64 := vp_updL (mo_srs (vp_updL v 2 (v 2 ^^^ 255)) 4) 0 ((mo_srs (vp_updL v 2 (v 2 ^^^ 255)) 4) 0 ^^^ (((mo_srs (vp_updL v 2 (v 2 ^^^ 255)) 4) 1 ^^^ (mo_srs (vp_updL v 2 (v 2 ^^^ 255)) 4) 2) ^^^ (mo_srs (vp_updL v 2 (v 2 ^^^ 255)) 4) 3))
def mo_pend (S : xq_S) (ln : Int32) : xq_S := (mo_pfin (mo_pendS S ln).1, (mo_pendS S ln).2.1, (mo_pendS S ln).2.2)
def mo_first (pp qq : Int64) (v : Nat → Int64) : Nat → Int64 := vp_updL (vp_updL (vp_updL (vp_updL v 0 (pp ^^^ 8317987319222330741)) 1 (qq ^^^ 7237128888997146477)) 2 (pp ^^^ 7816392313619706465)) 3 (qq ^^^ 8387220255154660723)
def mo_sq8 (st sq : Nat → Int64) : Nat → (Nat → Int64)
  | 0 => st
  | k + 1 => vp_updL (mo_sq8 st sq k) k (sq (8 + k))
def mo_n (md : Int32) : Int32 := if md = 1 then 16 else if md = 2 then 12 else 2
def mo_word (st : Nat → Int64) (j : Nat) : Int32 := if j % 2 = 0 then Int64.toInt32 (xm_r (st (j / 2)) 32) else Int64.toInt32 (st (j / 2))
def xk_dv : Nat → Int32
  | 0 => -1
  | d + 1 => nI d
theorem xk_dvs (d : Nat) : nI d + Int32.ofInt (-1) = xk_dv d := by
  cases d with
  | zero => decide
  | succ d => exact pk_m1 d
