/-! the static rows, and what goes along with the worlds: the rows' cells, the links between nest mates -/
def xs_SQl : List Int32 := [1779033703, -205731576, -1150833019, -2067093701, 1013904242, -23791573, -1521486534, 1595750129, 1359893119, -1377402159, -1694144372, 725511199, 528734635, -79577749, 1541459225, 327033209, -876896931, -1056596264, 1654270250, 914150663, -1856437926, 812702999, 355462360, -150054599, 1731405415, -4191439, -1900787065, 1750603025, -619958771, 1694076839, 1203062813, -1090891868]
def xs_SQ (j : Nat) : Int32 := xs_SQl.getD j 0
def xs_CRl : List Int32 := [1116352408, -685199838, 1899447441, 602891725, -1245643825, -330482897, -373957723, -2121671748, 961987163, -213338824, 1508970993, -1241133031, -1841331548, -1357295717, -1424204075, -630357736, -670586216, -1560083902, 310598401, 1164996542, 607225278, 1323610764, 1426881987, -704662302, 1925078388, -226784913, -2132889090, 991336113, -1680079193, 633803317, -1046744716, -815192428, -459576895, -1628353838, -272742522, 944711139, 264347078, -1953704523, 604807628, 2007800933, 770255983, 1495990901, 1249150122, 1856431235, 1555081692, -1119749164, 1996064986, -2096016459, -1740746414, -295247957, -1473132947, 766784016, -1341970488, -1728372417, -1084653625, -1091629340, -958395405, 1034457026, -710438585, -1828018395, 113926993, -536640913, 338241895, 168717936, 666307205, 1188179964, 773529912, 1546045734, 1294757372, 1522805485, 1396182291, -1651133473, 1695183700, -1951439906, 1986661051, 1014477480, -2117940946, 1206759142, -1838011259, 344077627, -1564481375, 1290863460, -1474664885, -1136513023, -1035236496, -789014639, -949202525, 106217008, -778901479, -688958952, -694614492, 1432725776, -200395387, 1467031594, 275423344, 851169720, 430227734, -1194143544, 506948616, 1363258195, 659060556, -544281703, 883997877, -509917016, 958139571, -976659869, 1322822218, -482243893, 1537002063, 2003034995, 1747873779, -692930397, 1955562222, 1575990012, 2024104815, 1125592928, -2067236844, -1578062990, -1933114872, 442776044, -1866530822, 593698344, -1538233109, -561857047, -1090935817, -1295615723, -965641998, -479046869, -903397682, -366583396, -779700025, 566280711, -354779690, -840897762, -176337025, -294727304, 116418474, 1914138554, 174292421, -1563912026, 289380356, -1090974290, 460393269, 320620315, 685471733, 587496836, 852142971, 1086792851, 1017036298, 365543100, 1126000580, -1676669620, 1288033470, -885112138, 1501505948, -60457430, 1607167915, 987167468, 1816402316, 1246189591]
def xs_CR (j : Nat) : Int32 := xs_CRl.getD j 0
def xs_FRl : List Int32 := [1936682341, 1886610805, 1685025377, 1852075885, 1819895653, 1852142177, 1952801890, 2037671283]
def xs_FR (j : Nat) : Int32 := xs_FRl.getD j 0
abbrev classes : List vw_C := [(RX0, TX0, 4), (RX1, TX1, 4), (RX2, TX2, 7), (RX3, TX3, 17)]
def xs_row (C n : String) (N : Nat) (f : Nat → Int32) : xk_T := fun A U H => ∃ t : Nat, va_Z C n "[I" (.ref t) A U H ∧ va_T .int t N (fun j => .int (f j)) A U H
def xs_nest (U : State) : Prop := va_Nw (.methodLinkNest RX0 45 yX2_addTo "WideHash") U ∧ va_Nw (.methodLinkNest RX0 51 yX2_turned "WideHash") U ∧ va_Nw (.methodLinkNest RX1 26 yX2_turned "WideHash") U ∧ va_Nw (.methodLinkNest RX1 50 yX2_addTo "WideHash") U ∧ va_Nw (.methodLinkNest RX2 9 yX0_init "WideHash") U ∧ va_Nw (.methodLinkNest RX2 18 yX1_init "WideHash") U
def xs_X : xk_T := fun A U H => xs_row "WideHash$Sha" "SQUARE_ROOTS" 32 xs_SQ A U H ∧ xs_row "WideHash$Sha" "CUBE_ROOTS" 160 xs_CR A U H ∧ xs_row "WideHash$Sip" "FIRST" 8 xs_FR A U H ∧ xs_nest U
theorem xs_row_ok (C n : String) (N : Nat) (f : Nat → Int32) : xk_ok (xs_row C n N f) := by
  refine ⟨fun A u U H hv h => ?_, fun A U H H1 hq h => ?_, fun A B U H hAB h => ?_⟩
  · obtain ⟨t, h1, h2⟩ := h
    have hvm : u.vm.Alike U.vm := hv.elim (fun e => by rw [e]; exact Vm.Alike.refl _) (fun w => w.alike)
    exact ⟨t, h1.moved hvm, h2.moved hvm⟩
  · obtain ⟨t, h1, h2⟩ := h
    exact ⟨t, h1.kept hq, h2.kept hq⟩
  · obtain ⟨t, h1, h2⟩ := h
    exact ⟨t, h1.narrow hAB, h2.narrow hAB⟩
theorem xs_nw {a : String} {i : Nat} {x : MethodName} {h : String} {u U : State} (hv : u.vm = U.vm ∨ u.WarmedH U.vm) (hZ : va_Nw (.methodLinkNest a i x h) u) : va_Nw (.methodLinkNest a i x h) U :=
  hv.elim (fun e => va_Nw.same rfl e hZ) (fun w => va_Nw.warmM w hZ)
theorem xs_X_ok : xk_ok xs_X := by
  refine ⟨fun A u U H hv h => ?_, fun A U H H1 hq h => ?_, fun A B U H hAB h => ?_⟩
  · obtain ⟨h1, h2, h3, n1, n2, n3, n4, n5, n6⟩ := h
    exact ⟨(xs_row_ok _ _ _ _).1 _ _ _ _ hv h1, (xs_row_ok _ _ _ _).1 _ _ _ _ hv h2, (xs_row_ok _ _ _ _).1 _ _ _ _ hv h3, xs_nw hv n1, xs_nw hv n2, xs_nw hv n3, xs_nw hv n4, xs_nw hv n5, xs_nw hv n6⟩
  · exact ⟨(xs_row_ok _ _ _ _).2.1 _ _ _ _ hq h.1, (xs_row_ok _ _ _ _).2.1 _ _ _ _ hq h.2.1, (xs_row_ok _ _ _ _).2.1 _ _ _ _ hq h.2.2.1, h.2.2.2⟩
  · exact ⟨(xs_row_ok _ _ _ _).2.2 _ _ _ _ hAB h.1, (xs_row_ok _ _ _ _).2.2 _ _ _ _ hAB h.2.1, (xs_row_ok _ _ _ _).2.2 _ _ _ _ hAB h.2.2.1, h.2.2.2⟩
theorem xs_get_SQUARE_ROOTS {A : Nat → Prop} {U : State} {H : Heap} (h : xs_X A U H) : ∃ t : Nat, va_Z "WideHash$Sha" "SQUARE_ROOTS" "[I" (.ref t) A U H ∧ va_T .int t 32 (fun j => .int (xs_SQ j)) A U H := h.1
theorem xs_get_CUBE_ROOTS {A : Nat → Prop} {U : State} {H : Heap} (h : xs_X A U H) : ∃ t : Nat, va_Z "WideHash$Sha" "CUBE_ROOTS" "[I" (.ref t) A U H ∧ va_T .int t 160 (fun j => .int (xs_CR j)) A U H := h.2.1
theorem xs_get_FIRST {A : Nat → Prop} {U : State} {H : Heap} (h : xs_X A U H) : ∃ t : Nat, va_Z "WideHash$Sip" "FIRST" "[I" (.ref t) A U H ∧ va_T .int t 8 (fun j => .int (xs_FR j)) A U H := h.2.2.1
theorem xs_n0_45 {A : Nat → Prop} {U : State} {H : Heap} (h : xs_X A U H) : va_Nw (.methodLinkNest RX0 45 yX2_addTo "WideHash") U := h.2.2.2.1
theorem xs_n0_51 {A : Nat → Prop} {U : State} {H : Heap} (h : xs_X A U H) : va_Nw (.methodLinkNest RX0 51 yX2_turned "WideHash") U := h.2.2.2.2.1
theorem xs_n1_26 {A : Nat → Prop} {U : State} {H : Heap} (h : xs_X A U H) : va_Nw (.methodLinkNest RX1 26 yX2_turned "WideHash") U := h.2.2.2.2.2.1
theorem xs_n1_50 {A : Nat → Prop} {U : State} {H : Heap} (h : xs_X A U H) : va_Nw (.methodLinkNest RX1 50 yX2_addTo "WideHash") U := h.2.2.2.2.2.2.1
theorem xs_n2_9 {A : Nat → Prop} {U : State} {H : Heap} (h : xs_X A U H) : va_Nw (.methodLinkNest RX2 9 yX0_init "WideHash") U := h.2.2.2.2.2.2.2.1
theorem xs_n2_18 {A : Nat → Prop} {U : State} {H : Heap} (h : xs_X A U H) : va_Nw (.methodLinkNest RX2 18 yX1_init "WideHash") U := h.2.2.2.2.2.2.2.2
section XC
variable {p : Program} {l : Launch} {e : Env} {R : Room} {s : State} {m : MethodId} {args : Array Value} {below : List Frame} {meth : Method} {c : Code} {H : Heap} {locs : List Loc} {cells slots : Nat} {Q : State → Prop}
variable {cc : ByteArray} {pc : Nat} {ls : Array Slot} {rest : List Value} {D : va_G} {cl : List vw_C} {A : Nat → Prop} {a : Nat} {tys : List (ClassId × FieldType)} {ws : va_W} {H0 : Heap}
theorem xk_copyi (hexec : p.tables.exec = Jvm.exec) (hb : c.code = cc) (hml : c.maxLocals = ls.size) {own : String} {index : Nat} (hown : s.vm.findClass own = some m.cls) (hlink : (Cond.methodLink own index arraycopyName).before args s = true) (hnat : (Cond.native arraycopyName).before args s = true) (hstat : (Cond.static arraycopyName).before args s = true) (hini : (Cond.initialized "java/lang/System").before args s = true)
    (hK : va_K D cl tys s) (hP : va_P D cl ws H) (hD : va_D A ws) (hS : va_S A H0 H locs) (q0 q1 t0 t1 : Nat) {a0 : Nat} {c0 c1 : ClassId} {n0 n1 : Nat} {f g : Nat → Int32} (ha0 : ws[q0]? = some (a0, .inl (c0, n0, .inl f))) (ha1 : ws[q1]? = some (a, .inl (c1, n1, .inl g))) (ht0 : tys[t0]? = some (c0, .int)) (ht1 : tys[t1]? = some (c1, .int))
    {sp dp n : Int32} (i j k : Nat) (hsp : sp = nI i) (hdp : dp = nI j) (hnk : n = nI k) (h4 : i + k ≤ n0) (h5 : j + k ≤ n1) (hn0 : n0 < 2 ^ 31) (hn1 : n1 < 2 ^ 31) (hframes : 1 ≤ R.frames) (hlocals : (rest.map fun v => v.category).sum + (nativeFrameWords "java/lang/System" "arraycopy" 5 + 11) ≤ R.locals) (hdg : decode cc pc = .ok (.invokestatic index, 3))
    (kk : ∀ (H1 : Heap) (locs1 : List Loc), va_P D cl (ws.set q1 (a, .inl (c1, n1, .inl (va_cpy f g i j k)))) H1 → va_D A (ws.set q1 (a, .inl (c1, n1, .inl (va_cpy f g i j k)))) → va_S A H0 H1 locs1 → W p l e R s m args below meth c H1 locs1 cells slots Q (F0 m (pc + 3) ls rest)) : W p l e R s m args below meth c H locs cells slots Q (F0 m pc ls (.int n :: .int dp :: .ref a :: .int sp :: .ref a0 :: rest)) := by
  subst hsp; subst hdp; subst hnk
  have ei : (nI i).toNatClampNeg = i := nI_clamp (by omega)
  have ej : (nI j).toNatClampNeg = j := nI_clamp (by omega)
  have ek : (nI k).toNatClampNeg = k := nI_clamp (by omega)
  refine va_copyi hexec hb hml hown hlink hnat hstat hini hK hP hD hS q0 q1 t0 t1 ha0 ha1 ht0 ht1 rfl (nI_pos (by omega)) (nI_pos (by omega)) (nI_pos (by omega)) (by rw [ei, ek]; exact h4) (by rw [ej, ek]; exact h5) (fun _ _ => rfl) hframes hlocals hdg ?_
  rw [ei, ej, ek]
  exact kk
/-- arraycopy out of a static row -/
theorem xk_copyt (hexec : p.tables.exec = Jvm.exec) (hb : c.code = cc) (hml : c.maxLocals = ls.size) {own : String} {index : Nat} (hown : s.vm.findClass own = some m.cls) (hlink : (Cond.methodLink own index arraycopyName).before args s = true) (hnat : (Cond.native arraycopyName).before args s = true) (hstat : (Cond.static arraycopyName).before args s = true) (hini : (Cond.initialized "java/lang/System").before args s = true)
    (hK : va_K D cl tys s) (hP : va_P D cl ws H) (hD : va_D A ws) (hS : va_S A s.heap H locs) {b0 n0 : Nat} {f : Nat → Int32} (hT0 : va_T .int b0 n0 (fun j => .int (f j)) A s s.heap) (q1 t1 : Nat) {c1 : ClassId} {n1 : Nat} {g : Nat → Int32} (ha1 : ws[q1]? = some (a, .inl (c1, n1, .inl g))) (ht1 : tys[t1]? = some (c1, .int))
    {sp dp n : Int32} (i j k : Nat) (hsp : sp = nI i) (hdp : dp = nI j) (hnk : n = nI k) (h4 : i + k ≤ n0) (h5 : j + k ≤ n1) (hn0 : n0 < 2 ^ 31) (hn1 : n1 < 2 ^ 31) (hframes : 1 ≤ R.frames) (hlocals : (rest.map fun v => v.category).sum + (nativeFrameWords "java/lang/System" "arraycopy" 5 + 11) ≤ R.locals) (hdg : decode cc pc = .ok (.invokestatic index, 3))
    (kk : ∀ (H1 : Heap) (locs1 : List Loc), va_P D cl (ws.set q1 (a, .inl (c1, n1, .inl (va_cpy f g i j k)))) H1 → va_D A (ws.set q1 (a, .inl (c1, n1, .inl (va_cpy f g i j k)))) → va_S A s.heap H1 locs1 → W p l e R s m args below meth c H1 locs1 cells slots Q (F0 m (pc + 3) ls rest)) : W p l e R s m args below meth c H locs cells slots Q (F0 m pc ls (.int n :: .int dp :: .ref a :: .int sp :: .ref b0 :: rest)) := by
  subst hsp; subst hdp; subst hnk
  have ei : (nI i).toNatClampNeg = i := nI_clamp (by omega)
  have ej : (nI j).toNatClampNeg = j := nI_clamp (by omega)
  have ek : (nI k).toNatClampNeg = k := nI_clamp (by omega)
  have ti : (nI i).toInt = (i : Int) := nI_toInt (by omega)
  have tj : (nI j).toInt = (j : Int) := nI_toInt (by omega)
  have tk : (nI k).toInt = (k : Int) := nI_toInt (by omega)
  intro T hT X
  obtain ⟨scr, hs1, hs2, hs3, hs4, -, hs5, hs7⟩ := hT0
  have hc0 : H[b0]? = some scr := by rw [hS.2.1 b0 (Array.getElem?_eq_some_iff.mp hs1).1 hs7]; exact hs1
  have hc1 : H[a]? = some (vp_cell c1 (n1, .inl g)) := hP q1 _ ha1
  obtain ⟨hs6, k0, hk0, cm0, hkk0⟩ := hs2
  obtain ⟨-, k1, hk1, cm1, hkk1⟩ := (hK.2 t1 _ ht1).1 n1 (fun j => .int (g j))
  obtain ⟨vm', X', step⟩ := X.arraycopy hexec hown hlink hnat hstat hini (src := b0) (dst := a) (cs := scr) (cd := vp_cell c1 (n1, .inl g)) (srcPos := nI i) (destPos := nI j) (n := nI k) (by rw [hT]; exact hc0) (by rw [hT]; exact hc1)
    hs6 (fun _ h => by cases h) hs3 (fun h => by cases h) hk0 hk1 hkk0 hkk1 (by simp [refKind]) (nI_pos (by omega)) (nI_pos (by omega)) (nI_pos (by omega))
    (by rw [ti, tk]; omega)
    (by rw [tj, tk]; show ¬ _ > ((arrV c1 n1 (fun j => .int (g j))).slots.size : Int); rw [arrV_size]; omega)
    (fun vm₁ _ z hz => by
      rw [ek] at hz
      have e0 : scr.slots.getD ((nI i).toNatClampNeg + z) .null = .int (f (i + z)) := by
        rw [ei, Array.getD_eq_getD_getElem?, hs5 _ (by omega)]
        rfl
      refine ⟨?_, ?_⟩
      · rw [e0]
        rfl
      · rw [e0]
        exact trivial)
    (g := F0 m pc ls (.int (nI k) :: .int (nI j) :: .ref a :: .int (nI i) :: .ref b0 :: rest)) rfl (by rw [hml]) (rest := rest) rfl (by rw [hb]; exact hdg) hframes (by show 2 * 0 + _ + _ ≤ _; omega)
  have e1 : copied scr (vp_cell c1 (n1, .inl g)) (nI i) (nI j) (nI k) = vp_cell c1 (n1, .inl (va_cpy f g i j k)) := by
    have e2 : copied scr (vp_cell c1 (n1, .inl g)) (nI i) (nI j) (nI k) = vp_cell c1 (n1, .inl (va_cpy f g (nI i).toNatClampNeg (nI j).toNatClampNeg (nI k).toNatClampNeg)) := va_copiedX (fun z => .int z) scr c1 f g hs5 (by rw [ei, ek]; exact h4)
    rw [e2, ei, ej, ek]
  rw [e1] at X' step
  have hl : a < H.size := (Array.getElem?_eq_some_iff.mp hc1).1
  have hheap : ((T.setVm vm').setCell a (vp_cell c1 (n1, .inl (va_cpy f g i j k)))).heap = H.setIfInBounds a (vp_cell c1 (n1, .inl (va_cpy f g i j k))) := by rw [← hT]; rfl
  have oq : ∀ q : Nat, q ≠ a → (H.setIfInBounds a (vp_cell c1 (n1, .inl (va_cpy f g i j k))))[q]? = H[q]? := fun q hq => by simp [Array.getElem?_setIfInBounds, Ne.symm hq]
  obtain ⟨t, a1, b1⟩ := kk _ _ (hP.set hD ha1 (show (H.setIfInBounds a _)[a]? = some _ by simp [Array.getElem?_setIfInBounds, hl]) oq) (hD.set ha1) ⟨by simp; exact hS.1, fun q g1 g2 => by
      rw [oq q (fun e => g2 (by rw [e]; exact hD.2 q1 _ ha1))]
      exact hS.2.1 q g1 g2, fun q hq => by
      rcases List.mem_append.mp hq with h | h
      · exact hS.2.2 q h
      · obtain ⟨z, -, hz⟩ := List.mem_map.mp h
        rw [← hz]
        exact hD.2 q1 _ ha1⟩ _ hheap X'
  exact ⟨t, step t a1, b1⟩
end XC
