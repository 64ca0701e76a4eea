/-! the law's start: what the Statement gives of the static rows, of array classes, of nest mates' links -/
theorem st_row {args : Array Value} {s : State} {A : Nat → Prop} {C n : String} {N p : Nat} {f : Nat → Int32} (hN : N < 2 ^ 31) (hfl : ∀ c ∈ flatC (Jvm.Cond.and given_1 narrow_1), c.before args s = true) (hlay : (Cond.laysStatic C n "[I").before args s = true) (hini : (Cond.initialized C).before args s = true) (harr : Cond.arrayOf (.static C n "[I") .int ∈ flatC (Jvm.Cond.and given_1 narrow_1)) (hlen : Cond.eq (.length (.static C n "[I")) (.int (Int32.ofNat N)) ∈ flatC (Jvm.Cond.and given_1 narrow_1)) (hrun : (List.range N).map (fun j => Cond.eq (.elem (.static C n "[I") (.int (Int32.ofNat j))) (.int (f j))) = ((flatC (Jvm.Cond.and given_1 narrow_1)).drop p).take N) (hA : ∀ a : Nat, a < s.heap.size → ¬ A a) : xs_row C n N f A s s.heap := by
  obtain ⟨t, h1, h2⟩ := va_Tof (f := fun j => .int (f j)) hN (hfl _ harr) (va_eqt (hfl _ hlen)) (fun j hj => va_eqt (hfl _ (va_run hrun j hj))) hA
  exact ⟨t, va_Zref hlay hini h1 hA, h2⟩
theorem st_arrI {args : Array Value} {s : State} (h : (Cond.arrayClass .int).before args s = true) : ∃ cA : ClassId, ArrOfT s cA .int ∧ va_RA s cA .int := by
  obtain ⟨cA, kA, comp, hfind, hk, hkind⟩ := Cond.arrayClass_spec h
  exact ⟨cA, fun n z => ⟨fun k h => (by cases h), kA, hk, comp, hkind⟩, hfind⟩
theorem st_arrL {args : Array Value} {s : State} (h : (Cond.arrayClass .long).before args s = true) : ∃ cA : ClassId, ArrOfT s cA .long ∧ va_RA s cA .long := by
  obtain ⟨cA, kA, comp, hfind, hk, hkind⟩ := Cond.arrayClass_spec h
  exact ⟨cA, fun n z => ⟨fun k h => (by cases h), kA, hk, comp, hkind⟩, hfind⟩
theorem st_r1 : (List.range 32).map (fun j => Cond.eq (.elem (.static "WideHash$Sha" "SQUARE_ROOTS" "[I") (.int (Int32.ofNat j))) (.int (xs_SQ j))) = ((flatC (Jvm.Cond.and given_1 narrow_1)).drop 7).take 32 := by decide +kernel
theorem st_r2 : (List.range 8).map (fun j => Cond.eq (.elem (.static "WideHash$Sip" "FIRST" "[I") (.int (Int32.ofNat j))) (.int (xs_FR j))) = ((flatC (Jvm.Cond.and given_1 narrow_1)).drop 42).take 8 := by decide +kernel
theorem st_r3 : (List.range 160).map (fun j => Cond.eq (.elem (.static "WideHash$Sha" "CUBE_ROOTS" "[I") (.int (Int32.ofNat j))) (.int (xs_CR j))) = ((flatC (Jvm.Cond.and given_1 narrow_1)).drop 53).take 160 := by decide +kernel
theorem st_X {args : Array Value} {s : State} {A : Nat → Prop} (hts : ∀ w ∈ lw_tbl, w.before args s = true) (hgv : (Jvm.Cond.and given_1 narrow_1).before args s = true) (hA : ∀ a : Nat, a < s.heap.size → ¬ A a) : xs_X A s s.heap := by
  have hfl := flat_of_before _ hgv
  refine ⟨?_, ?_, ?_, ?_⟩
  · exact st_row (by decide) hfl (hts _ (by decide +kernel)) (hts _ (by decide +kernel)) (by decide +kernel) (by decide +kernel) st_r1 hA
  · exact st_row (by decide) hfl (hts _ (by decide +kernel)) (hts _ (by decide +kernel)) (by decide +kernel) (by decide +kernel) st_r3 hA
  · exact st_row (by decide) hfl (hts _ (by decide +kernel)) (hts _ (by decide +kernel)) (by decide +kernel) (by decide +kernel) st_r2 hA
  · exact ⟨va_Nw.of rfl (hts (.methodLinkNest RX0 45 yX2_addTo "WideHash") (by decide +kernel)), va_Nw.of rfl (hts (.methodLinkNest RX0 51 yX2_turned "WideHash") (by decide +kernel)), va_Nw.of rfl (hts (.methodLinkNest RX1 26 yX2_turned "WideHash") (by decide +kernel)), va_Nw.of rfl (hts (.methodLinkNest RX1 50 yX2_addTo "WideHash") (by decide +kernel)), va_Nw.of rfl (hts (.methodLinkNest RX2 9 yX0_init "WideHash") (by decide +kernel)), va_Nw.of rfl (hts (.methodLinkNest RX2 18 yX1_init "WideHash") (by decide +kernel))⟩
section XSL
variable {p : Program} {l : Launch} {e : Env} {R : Room} {s : State} {m : MethodId} {args : Array Value} {below : List Frame} {meth : Method} {c : Code} {H : Heap} {locs : List Loc} {cells slots : Nat} {Q : State → Prop}
variable {cc : ByteArray} {pc : Nat} {ls : Array Slot} {rest : List Value} {A : Nat → Prop} {H0 : Heap}
theorem xk_sld (hexec : p.tables.exec = Jvm.exec) (hb : c.code = cc) {b L : Nat} {xs : Nat → Int32} (hX : va_X b L xs s H0) (hbl : b < H0.size) (hbA : ¬ A b) (hS : va_S A H0 H locs) {i : Int32} (k : Nat) (hi : i = nI k) (hk : k < L) (hL : L < 2 ^ 31) (hdg : decode cc pc = .ok (.iaload, 1))
    (kk : W p l e R s m args below meth c H locs cells slots Q (F0 m (pc + 1) ls (.int (xs k) :: rest))) : W p l e R s m args below meth c H locs cells slots Q (F0 m pc ls (.int i :: .ref b :: rest)) := by
  subst hi
  refine va_sld hexec hb hX hbl hbA hS (vp_in_nI hk hL) hdg ?_
  rw [nI_clamp (Nat.lt_trans hk hL)]
  exact kk
end XSL
theorem xk_i5 {a b : Nat} (h : a + 5 = b) : nI a + Int32.ofInt 5 = nI b := by subst h; exact nI_add a 5
theorem xk_len {L t : Nat} (hL : L ≤ 2560) (ht : 5 * t ≤ 3000) : nI L - 5 < nI (5 * t) ↔ L < 5 * t + 5 := by
  have e : (nI L - nI 5).toInt = (L : Int) - 5 := pk_sub_toInt (by omega) (by omega)
  have e2 : (nI (5 * t)).toInt = ((5 * t : Nat) : Int) := nI_toInt (by omega)
  show nI L - nI 5 < nI (5 * t) ↔ _
  rw [Int32.lt_iff_toInt_lt, e, e2]
  omega
