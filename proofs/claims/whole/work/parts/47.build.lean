/-! what is being made: a world that grows -/
abbrev zH : Type := va_G × (Nat → Prop) × (State → Prop) × Launch × Program × Env × Room × State × MethodId × Array Value × List Frame × Method × Code
def VB (G : zH) (tys : List (ClassId × FieldType)) (ws : va_W) (cn sn pc : Nat) (lo : List (Option Value)) (st : List Value) : Prop := match G with
  | (D, A, Q, l, p, e, R, s, m, args, below, meth, c) => ∀ (H : Heap) (locs : List Loc) (ls : Array Slot), va_K D zcl tys s → va_P D zcl ws H → va_D A ws → va_S A s.heap H locs → lh ls lo → W p l e R s m args below meth c H locs cn sn Q (F0 m pc ls st)
def zB (G : zH) (cc : ByteArray) (own : String) (nL fr ce sl lc : Nat) : Prop := match G with
  | (D, A, Q, l, p, e, R, s, m, args, below, meth, c) => p.tables.exec = Jvm.exec ∧ c.code = cc ∧ meth.sig.returnType = none ∧ c.maxLocals = nL ∧ s.vm.findClass own = some m.cls ∧ (∀ w ∈ tb, w.before args s = true) ∧ zN s ∧ meth.locks = false ∧ meth.name = "<init>" ∧ (∀ q, s.heap.size ≤ q → A q) ∧ R = { frames := fr, cells := ce, slots := sl, locals := lc }
theorem b_iconst {G : zH} {cc : ByteArray} {own : String} {nL fr ce sl lc : Nat} (C : zB G cc own nL fr ce sl lc) {tys : List (ClassId × FieldType)} {ws : va_W} {cn sn pc : Nat} {lo : List (Option Value)} {st : List Value} {n : Int} (d : decode cc pc = .ok (.iconst n, 1)) (k : VB G tys ws cn sn (pc + 1) lo (.int (iI n) :: st)) : VB G tys ws cn sn pc lo st := by
  obtain ⟨D, A, Q, l, p, e, R, s, m, args, below, meth, c⟩ := G
  obtain ⟨hx, hb, hr, hml, hown, hts, hN, hlk, hin, hA, hR⟩ := C
  intro H locs ls hK hP hD hS hl
  refine lv_iconst hx hb d rfl ?_
  exact k H locs ls hK hP hD hS hl
theorem b_bipush {G : zH} {cc : ByteArray} {own : String} {nL fr ce sl lc : Nat} (C : zB G cc own nL fr ce sl lc) {tys : List (ClassId × FieldType)} {ws : va_W} {cn sn pc : Nat} {lo : List (Option Value)} {st : List Value} {n : Int} (hn : (Int8.ofInt n).toInt32 = iI n) (d : decode cc pc = .ok (.bipush n, 2)) (k : VB G tys ws cn sn (pc + 2) lo (.int (iI n) :: st)) : VB G tys ws cn sn pc lo st := by
  obtain ⟨D, A, Q, l, p, e, R, s, m, args, below, meth, c⟩ := G
  obtain ⟨hx, hb, hr, hml, hown, hts, hN, hlk, hin, hA, hR⟩ := C
  intro H locs ls hK hP hD hS hl
  refine lv_bipush hx hb d hn ?_
  exact k H locs ls hK hP hD hS hl
theorem b_sipush {G : zH} {cc : ByteArray} {own : String} {nL fr ce sl lc : Nat} (C : zB G cc own nL fr ce sl lc) {tys : List (ClassId × FieldType)} {ws : va_W} {cn sn pc : Nat} {lo : List (Option Value)} {st : List Value} {n : Int} (hn : (Int16.ofInt n).toInt32 = iI n) (d : decode cc pc = .ok (.sipush n, 3)) (k : VB G tys ws cn sn (pc + 3) lo (.int (iI n) :: st)) : VB G tys ws cn sn pc lo st := by
  obtain ⟨D, A, Q, l, p, e, R, s, m, args, below, meth, c⟩ := G
  obtain ⟨hx, hb, hr, hml, hown, hts, hN, hlk, hin, hA, hR⟩ := C
  intro H locs ls hK hP hD hS hl
  refine lv_sipush hx hb d hn ?_
  exact k H locs ls hK hP hD hS hl
theorem b_dup {G : zH} {cc : ByteArray} {own : String} {nL fr ce sl lc : Nat} (C : zB G cc own nL fr ce sl lc) {tys : List (ClassId × FieldType)} {ws : va_W} {cn sn pc : Nat} {lo : List (Option Value)} {st : List Value} {v : Value} (hv : v.category = 1) (d : decode cc pc = .ok (.dup, 1)) (k : VB G tys ws cn sn (pc + 1) lo (v :: v :: st)) : VB G tys ws cn sn pc lo (v :: st) := by
  obtain ⟨D, A, Q, l, p, e, R, s, m, args, below, meth, c⟩ := G
  obtain ⟨hx, hb, hr, hml, hown, hts, hN, hlk, hin, hA, hR⟩ := C
  intro H locs ls hK hP hD hS hl
  refine lv_dup hx hb d hv ?_
  exact k H locs ls hK hP hD hS hl
theorem b_ald0 {G : zH} {cc : ByteArray} {own : String} {nL fr ce sl lc : Nat} (C : zB G cc own nL fr ce sl lc) {tys : List (ClassId × FieldType)} {ws : va_W} {cn sn pc : Nat} {lo : List (Option Value)} {st : List Value} {r : List (Option Value)} {x : Nat} (d : decode cc pc = .ok (.aload_n 0, 1)) (k : VB G tys ws cn sn (pc + 1) (some (.ref x) :: r) (.ref x :: st)) : VB G tys ws cn sn pc (some (.ref x) :: r) st := by
  obtain ⟨D, A, Q, l, p, e, R, s, m, args, below, meth, c⟩ := G
  obtain ⟨hx, hb, hr, hml, hown, hts, hN, hlk, hin, hA, hR⟩ := C
  intro H locs ls hK hP hD hS hl
  refine lv_aload_n hx hb d rfl (hl.2.2 0 _ rfl) ?_
  exact k H locs ls hK hP hD hS hl
theorem nn_iI {N : Nat} (h : N < 2147483648) : ¬ iI (N : Int) < 0 := by
  rw [show (0 : Int32) = iI 0 from rfl, iI_lt (by omega) (by omega)]
  omega
theorem tn_iI {N : Nat} (h : N < 2147483648) : (iI (N : Int)).toNatClampNeg = N := by
  show (iI (N : Int)).toInt.toNat = N
  rw [iI_toInt (by omega), Int.toNat_natCast]
theorem b_newaI {G : zH} {cc : ByteArray} {own : String} {nL fr ce sl lc : Nat} (C : zB G cc own nL fr ce sl lc) {tys : List (ClassId × FieldType)} {ws : va_W} {cn sn pc : Nat} {lo : List (Option Value)} {st : List Value} {n : Int} {N : Nat} (hN : n = (N : Int)) (h31 : N < 67108864) (hc : cn + 1 ≤ ce) (hs : sn + N ≤ sl) (ht : Cond.arrayClass .int ∈ tb) (d : decode cc pc = .ok (.newarray .int, 2)) (k : ∀ (q : Nat) (cA : ClassId), VB G (tys ++ [(cA, .int)]) (ws ++ [(q, .inl (cA, N, .inl (fun _ => 0)))]) (cn + 1) (sn + N) (pc + 2) lo (.ref q :: st)) : VB G tys ws cn sn pc lo (.int (iI n) :: st) := by
  obtain ⟨D, A, Q, l, p, e, R, s, m, args, below, meth, c⟩ := G
  obtain ⟨hx, hb, hr, hml, hown, hts, hN0, hlk, hin, hA, hR⟩ := C
  intro H locs ls hK hP hD hS hl
  subst hR
  subst hN
  refine va_newa (atype := .int) hx hb (hts _ ht) rfl hK hP hD hS hA (N' := N) (a0 := (N, .inl (fun _ => 0))) (fun _ => rfl) ?_ ?_ ?_ hc hs d (fun q cA H1 hK hP hD hS => k q cA H1 locs ls hK hP hD hS hl)
  · exact nn_iI (by omega)
  · exact tn_iI (by omega)
  · show N * 4 ≤ 536870912
    omega
theorem b_newaZ {G : zH} {cc : ByteArray} {own : String} {nL fr ce sl lc : Nat} (C : zB G cc own nL fr ce sl lc) {tys : List (ClassId × FieldType)} {ws : va_W} {cn sn pc : Nat} {lo : List (Option Value)} {st : List Value} {n : Int} {N : Nat} (hN : n = (N : Int)) (h31 : N < 67108864) (hc : cn + 1 ≤ ce) (hs : sn + N ≤ sl) (ht : Cond.arrayClass .boolean ∈ tb) (d : decode cc pc = .ok (.newarray .boolean, 2)) (k : ∀ (q : Nat) (cA : ClassId), VB G (tys ++ [(cA, .boolean)]) (ws ++ [(q, .inl (cA, N, .inl (fun _ => 0)))]) (cn + 1) (sn + N) (pc + 2) lo (.ref q :: st)) : VB G tys ws cn sn pc lo (.int (iI n) :: st) := by
  obtain ⟨D, A, Q, l, p, e, R, s, m, args, below, meth, c⟩ := G
  obtain ⟨hx, hb, hr, hml, hown, hts, hN0, hlk, hin, hA, hR⟩ := C
  intro H locs ls hK hP hD hS hl
  subst hR
  subst hN
  refine va_newa (atype := .boolean) hx hb (hts _ ht) rfl hK hP hD hS hA (N' := N) (a0 := (N, .inl (fun _ => 0))) (fun _ => rfl) ?_ ?_ ?_ hc hs d (fun q cA H1 hK hP hD hS => k q cA H1 locs ls hK hP hD hS hl)
  · exact nn_iI (by omega)
  · exact tn_iI (by omega)
  · show N * 1 ≤ 536870912
    omega
theorem b_newaJ {G : zH} {cc : ByteArray} {own : String} {nL fr ce sl lc : Nat} (C : zB G cc own nL fr ce sl lc) {tys : List (ClassId × FieldType)} {ws : va_W} {cn sn pc : Nat} {lo : List (Option Value)} {st : List Value} {n : Int} {N : Nat} (hN : n = (N : Int)) (h31 : N < 67108864) (hc : cn + 1 ≤ ce) (hs : sn + N ≤ sl) (ht : Cond.arrayClass .long ∈ tb) (d : decode cc pc = .ok (.newarray .long, 2)) (k : ∀ (q : Nat) (cA : ClassId), VB G (tys ++ [(cA, .long)]) (ws ++ [(q, .inl (cA, N, .inr (.inl (fun _ => 0))))]) (cn + 1) (sn + N) (pc + 2) lo (.ref q :: st)) : VB G tys ws cn sn pc lo (.int (iI n) :: st) := by
  obtain ⟨D, A, Q, l, p, e, R, s, m, args, below, meth, c⟩ := G
  obtain ⟨hx, hb, hr, hml, hown, hts, hN0, hlk, hin, hA, hR⟩ := C
  intro H locs ls hK hP hD hS hl
  subst hR
  subst hN
  refine va_newa (atype := .long) hx hb (hts _ ht) rfl hK hP hD hS hA (N' := N) (a0 := (N, .inr (.inl (fun _ => 0)))) (fun _ => rfl) ?_ ?_ ?_ hc hs d (fun q cA H1 hK hP hD hS => k q cA H1 locs ls hK hP hD hS hl)
  · exact nn_iI (by omega)
  · exact tn_iI (by omega)
  · show N * 8 ≤ 536870912
    omega
