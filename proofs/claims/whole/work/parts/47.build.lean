/-! what is being made: a world that grows -/
abbrev zH : Type := va_G × (Nat → Prop) × (State → Prop) × Launch × Program × Env × Room × State × MethodId × Array Value × List Frame × Method × Code
def VB (G : zH) (tys : List (ClassId × FieldType)) (ws : va_W) (cn sn pc : Nat) (lo : List (Option Value)) (st : List Value) : Prop := match G with
  | (D, A, Q, l, p, e, R, s, m, args, below, meth, c) => ∀ (H : Heap) (locs : List Loc) (ls : Array Slot), va_K D zcl tys s → va_P D zcl ws H → va_D A ws → va_S A s.heap H locs → lh ls lo → W p l e R s m args below meth c H locs cn sn Q (F0 m pc ls st)
def zB (G : zH) (cc : ByteArray) (own : String) (nL fr ce sl lc : Nat) : Prop := match G with
  | (D, A, Q, l, p, e, R, s, m, args, below, meth, c) => p.tables.exec = Jvm.exec ∧ c.code = cc ∧ meth.sig.returnType = none ∧ c.maxLocals = nL ∧ s.vm.findClass own = some m.cls ∧ (∀ w ∈ tb, w.before args s = true) ∧ zN s ∧ meth.locks = false ∧ meth.name = "<init>" ∧ (∀ q, s.heap.size ≤ q → A q) ∧ R = { frames := fr, cells := ce, slots := sl, locals := lc }
theorem b_iconst {G : zH} {cc : ByteArray} {own : String} {nL fr ce sl lc : Nat} (C : zB G cc own nL fr ce sl lc) {tys : List (ClassId × FieldType)} {ws : va_W} {cn sn pc : Nat} {lo : List (Option Value)} {st : List Value} {n : Int} (d : decode cc pc = .ok (.iconst n, 1)) (k : VB G tys ws cn sn (pc + 1) lo (.int (iI n) :: st)) : VB G tys ws cn sn pc lo st := by
  obtain ⟨D, A, Q, l, p, e, R, s, m, args, below, meth, c⟩ := G
  obtain ⟨hx, hb, hr, hml, hown, hts, hN, hlk, hin, hA, hR⟩ := C
  intro H locs ls hK hP hD hS hl
  refine lv_iconst hx hb d rfl ?_
  exact k H locs ls hK hP hD hS hl
theorem b_bipush {G : zH} {cc : ByteArray} {own : String} {nL fr ce sl lc : Nat} (C : zB G cc own nL fr ce sl lc) {tys : List (ClassId × FieldType)} {ws : va_W} {cn sn pc : Nat} {lo : List (Option Value)} {st : List Value} {n : Int} (hn : (Int8.ofInt n).toInt32 = iI n) (d : decode cc pc = .ok (.bipush n, 2)) (k : VB G tys ws cn sn (pc + 2) lo (.int (iI n) :: st)) : VB G tys ws cn sn pc lo st := by
  obtain ⟨D, A, Q, l, p, e, R, s, m, args, below, meth, c⟩ := G
  obtain ⟨hx, hb, hr, hml, hown, hts, hN, hlk, hin, hA, hR⟩ := C
  intro H locs ls hK hP hD hS hl
  refine lv_bipush hx hb d hn ?_
  exact k H locs ls hK hP hD hS hl
theorem b_sipush {G : zH} {cc : ByteArray} {own : String} {nL fr ce sl lc : Nat} (C : zB G cc own nL fr ce sl lc) {tys : List (ClassId × FieldType)} {ws : va_W} {cn sn pc : Nat} {lo : List (Option Value)} {st : List Value} {n : Int} (hn : (Int16.ofInt n).toInt32 = iI n) (d : decode cc pc = .ok (.sipush n, 3)) (k : VB G tys ws cn sn (pc + 3) lo (.int (iI n) :: st)) : VB G tys ws cn sn pc lo st := by
  obtain ⟨D, A, Q, l, p, e, R, s, m, args, below, meth, c⟩ := G
  obtain ⟨hx, hb, hr, hml, hown, hts, hN, hlk, hin, hA, hR⟩ := C
  intro H locs ls hK hP hD hS hl
  refine lv_sipush hx hb d hn ?_
  exact k H locs ls hK hP hD hS hl
theorem b_lconst {G : zH} {cc : ByteArray} {own : String} {nL fr ce sl lc : Nat} (C : zB G cc own nL fr ce sl lc) {tys : List (ClassId × FieldType)} {ws : va_W} {cn sn pc : Nat} {lo : List (Option Value)} {st : List Value} {n : Fin 2} {v : Int64} (hv : Int64.ofNat (n : Nat) = v) (d : decode cc pc = .ok (.lconst n, 1)) (k : VB G tys ws cn sn (pc + 1) lo (.long v :: st)) : VB G tys ws cn sn pc lo st := by
  obtain ⟨D, A, Q, l, p, e, R, s, m, args, below, meth, c⟩ := G
  obtain ⟨hx, hb, hr, hml, hown, hts, hN, hlk, hin, hA, hR⟩ := C
  intro H locs ls hK hP hD hS hl
  refine lv_lconst hx hb d hv ?_
  exact k H locs ls hK hP hD hS hl
theorem b_dup {G : zH} {cc : ByteArray} {own : String} {nL fr ce sl lc : Nat} (C : zB G cc own nL fr ce sl lc) {tys : List (ClassId × FieldType)} {ws : va_W} {cn sn pc : Nat} {lo : List (Option Value)} {st : List Value} {v : Value} (hv : v.category = 1) (d : decode cc pc = .ok (.dup, 1)) (k : VB G tys ws cn sn (pc + 1) lo (v :: v :: st)) : VB G tys ws cn sn pc lo (v :: st) := by
  obtain ⟨D, A, Q, l, p, e, R, s, m, args, below, meth, c⟩ := G
  obtain ⟨hx, hb, hr, hml, hown, hts, hN, hlk, hin, hA, hR⟩ := C
  intro H locs ls hK hP hD hS hl
  refine lv_dup hx hb d hv ?_
  exact k H locs ls hK hP hD hS hl
theorem b_ald0 {G : zH} {cc : ByteArray} {own : String} {nL fr ce sl lc : Nat} (C : zB G cc own nL fr ce sl lc) {tys : List (ClassId × FieldType)} {ws : va_W} {cn sn pc : Nat} {st : List Value} {r : List (Option Value)} {x : Nat} (d : decode cc pc = .ok (.aload_n 0, 1)) (k : VB G tys ws cn sn (pc + 1) (some (.ref x) :: r) (.ref x :: st)) : VB G tys ws cn sn pc (some (.ref x) :: r) st := by
  obtain ⟨D, A, Q, l, p, e, R, s, m, args, below, meth, c⟩ := G
  obtain ⟨hx, hb, hr, hml, hown, hts, hN, hlk, hin, hA, hR⟩ := C
  intro H locs ls hK hP hD hS hl
  refine lv_aload_n hx hb d rfl (hl.2.2 0 _ rfl) ?_
  exact k H locs ls hK hP hD hS hl
theorem nn_iI {N : Nat} (h : N < 2147483648) : ¬ iI (N : Int) < 0 := by
  rw [show (0 : Int32) = iI 0 from rfl, iI_lt (by omega) (by omega)]
  omega
theorem tn_iI {N : Nat} (h : N < 2147483648) : (iI (N : Int)).toNatClampNeg = N := by
  show (iI (N : Int)).toInt.toNat = N
  rw [iI_toInt (by omega), Int.toNat_natCast]
theorem b_newaI {G : zH} {cc : ByteArray} {own : String} {nL fr ce sl lc : Nat} (C : zB G cc own nL fr ce sl lc) {tys : List (ClassId × FieldType)} {ws : va_W} {cn sn pc : Nat} {lo : List (Option Value)} {st : List Value} {n : Int} {N : Nat} (hN : n = (N : Int)) (h31 : N < 67108864) (hc : cn + 1 ≤ ce) (hs : sn + N ≤ sl) (ht : Cond.arrayClass .int ∈ tb) (d : decode cc pc = .ok (.newarray .int, 2)) (k : ∀ (q : Nat) (cA : ClassId), VB G (tys ++ [(cA, .int)]) (ws ++ [(q, .inl (cA, N, .inl (fun _ => 0)))]) (cn + 1) (sn + N) (pc + 2) lo (.ref q :: st)) : VB G tys ws cn sn pc lo (.int (iI n) :: st) := by
  obtain ⟨D, A, Q, l, p, e, R, s, m, args, below, meth, c⟩ := G
  obtain ⟨hx, hb, hr, hml, hown, hts, hN0, hlk, hin, hA, hR⟩ := C
  intro H locs ls hK hP hD hS hl
  subst hR
  subst hN
  refine va_newa (atype := .int) hx hb (hts _ ht) rfl hK hP hD hS hA (N' := N) (a0 := (N, .inl (fun _ => 0))) (fun _ => rfl) ?_ ?_ ?_ hc hs d (fun q cA H1 hK hP hD hS => k q cA H1 locs ls hK hP hD hS hl)
  · exact nn_iI (by omega)
  · exact tn_iI (by omega)
  · show N * 4 ≤ 536870912
    omega
theorem b_newaZ {G : zH} {cc : ByteArray} {own : String} {nL fr ce sl lc : Nat} (C : zB G cc own nL fr ce sl lc) {tys : List (ClassId × FieldType)} {ws : va_W} {cn sn pc : Nat} {lo : List (Option Value)} {st : List Value} {n : Int} {N : Nat} (hN : n = (N : Int)) (h31 : N < 67108864) (hc : cn + 1 ≤ ce) (hs : sn + N ≤ sl) (ht : Cond.arrayClass .boolean ∈ tb) (d : decode cc pc = .ok (.newarray .boolean, 2)) (k : ∀ (q : Nat) (cA : ClassId), VB G (tys ++ [(cA, .boolean)]) (ws ++ [(q, .inl (cA, N, .inl (fun _ => 0)))]) (cn + 1) (sn + N) (pc + 2) lo (.ref q :: st)) : VB G tys ws cn sn pc lo (.int (iI n) :: st) := by
  obtain ⟨D, A, Q, l, p, e, R, s, m, args, below, meth, c⟩ := G
  obtain ⟨hx, hb, hr, hml, hown, hts, hN0, hlk, hin, hA, hR⟩ := C
  intro H locs ls hK hP hD hS hl
  subst hR
  subst hN
  refine va_newa (atype := .boolean) hx hb (hts _ ht) rfl hK hP hD hS hA (N' := N) (a0 := (N, .inl (fun _ => 0))) (fun _ => rfl) ?_ ?_ ?_ hc hs d (fun q cA H1 hK hP hD hS => k q cA H1 locs ls hK hP hD hS hl)
  · exact nn_iI (by omega)
  · exact tn_iI (by omega)
  · show N * 1 ≤ 536870912
    omega
theorem b_newaJ {G : zH} {cc : ByteArray} {own : String} {nL fr ce sl lc : Nat} (C : zB G cc own nL fr ce sl lc) {tys : List (ClassId × FieldType)} {ws : va_W} {cn sn pc : Nat} {lo : List (Option Value)} {st : List Value} {n : Int} {N : Nat} (hN : n = (N : Int)) (h31 : N < 67108864) (hc : cn + 1 ≤ ce) (hs : sn + N ≤ sl) (ht : Cond.arrayClass .long ∈ tb) (d : decode cc pc = .ok (.newarray .long, 2)) (k : ∀ (q : Nat) (cA : ClassId), VB G (tys ++ [(cA, .long)]) (ws ++ [(q, .inl (cA, N, .inr (.inl (fun _ => 0))))]) (cn + 1) (sn + N) (pc + 2) lo (.ref q :: st)) : VB G tys ws cn sn pc lo (.int (iI n) :: st) := by
  obtain ⟨D, A, Q, l, p, e, R, s, m, args, below, meth, c⟩ := G
  obtain ⟨hx, hb, hr, hml, hown, hts, hN0, hlk, hin, hA, hR⟩ := C
  intro H locs ls hK hP hD hS hl
  subst hR
  subst hN
  refine va_newa (atype := .long) hx hb (hts _ ht) rfl hK hP hD hS hA (N' := N) (a0 := (N, .inr (.inl (fun _ => 0)))) (fun _ => rfl) ?_ ?_ ?_ hc hs d (fun q cA H1 hK hP hD hS => k q cA H1 locs ls hK hP hD hS hl)
  · exact nn_iI (by omega)
  · exact tn_iI (by omega)
  · show N * 8 ≤ 536870912
    omega
theorem b_obj {G : zH} {cc : ByteArray} {own : String} {nL fr ce sl lc : Nat} (C : zB G cc own nL fr ce sl lc) {tys : List (ClassId × FieldType)} {ws : va_W} {cn sn pc : Nat} {lo : List (Option Value)} {st : List Value} {idx a : Nat} (hlink : Cond.methodLink own idx ⟨"java/lang/Object", "<init>", "()V"⟩ ∈ tb) (hf : 1 ≤ fr) (hlc : 20 ≤ lc) (hnl : lo.length = nL) (hst : (st.map fun v => v.category).sum ≤ 8) (d : decode cc pc = .ok (.invokespecial idx, 3)) (k : VB G tys ws cn sn (pc + 3) lo st) : VB G tys ws cn sn pc lo (.ref a :: st) := by
  obtain ⟨D, A, Q, l, p, e, R, s, m, args, below, meth, c⟩ := G
  obtain ⟨hx, hb, hr, hml, hown, hts, hN, hlk, hin, hA, hR⟩ := C
  intro H locs ls hK hP hD hS hl
  subst hR
  refine W.objInit (a := a) (rest := st) hx hb hown (hts _ hlink) (hts _ k_16) (hts _ k_17) rfl (by rw [hml]; exact hl.1.trans hnl) rfl d hf ?_ ?_
  · have h0 : (F0 m pc ls (.ref a :: st)).monitorRoom = 0 := rfl
    show 2 * (F0 m pc ls (.ref a :: st)).monitorRoom + (st.map fun v => v.category).sum + 12 ≤ lc
    rw [h0]
    omega
  · exact W.eq (g2 := F0 m (pc + 3) ls st) rfl (k H locs ls hK hP hD hS hl)
theorem b_putF {G : zH} {cc : ByteArray} {own : String} {nL fr ce sl lc : Nat} (C : zB G cc own nL fr ce sl lc) {tys : List (ClassId × FieldType)} {ws : va_W} {cn sn pc : Nat} {lo : List (Option Value)} {st : List Value} {Cn ref : String} {T : u_T} {Nf ci idx a q0 : Nat} {fs : List Value} (he : ws[q0]? = some (a, .inr (ci, fs))) (hci : zcl[ci]? = some (Cn, T, Nf)) (hlay : ∀ w ∈ u_ws Cn T Nf, w ∈ tb) (ty0 : Nat → FieldType) (hty : ∀ k, k < Nf → parseFieldDescriptor (T k).2.2.1 = some (ty0 k)) (hnm : ∀ a, a < Nf → ∀ b, b < Nf → a ≠ b → (T a).2.1 ≠ (T b).2.1) (j : Nat) (hj : j < Nf) (hlink : Cond.fieldLink own idx ref (T j).2.1 (T j).2.2.1 ∈ tb) (hrf : (T j).1 = ref) (hfin : (T j).2.2.2 = true) (hdc : (T j).1 = own) {ty : FieldType} {v : Value} (hpd : parseFieldDescriptor (T j).2.2.1 = some ty) (hn : narrow ty v = v) (hfit : fits ty v = true) (hll : j < fs.length) (d : decode cc pc = .ok (.putfield idx, 3)) (k : VB G tys (ws.set q0 (a, .inr (ci, fs.set j v))) cn sn (pc + 3) lo st) : VB G tys ws cn sn pc lo (v :: .ref a :: st) := by
  obtain ⟨D, A, Q, l, p, e, R, s, m, args, below, meth, c⟩ := G
  obtain ⟨hx, hb, hr, hml, hown, hts, hN, hlk, hin, hA, hR⟩ := C
  intro H locs ls hK hP hD hS hl
  exact va_putF (D := D) (ci := ci) (C := Cn) (T := T) (N := Nf) (v := v) hx hb hts hlay ty0 hty hnm hown hK hP hD hS q0 he hci j hj (hts _ hlink) (fun _ h => by rw [← hrf]; exact h) hfin hin hdc hpd hn hfit hll d (fun H1 locs1 hP1 hD1 hS1 => k H1 locs1 ls hK hP1 hD1 hS1 hl)
theorem b_put {G : zH} {cc : ByteArray} {own : String} {nL fr ce sl lc : Nat} (C : zB G cc own nL fr ce sl lc) {tys : List (ClassId × FieldType)} {ws : va_W} {cn sn pc : Nat} {lo : List (Option Value)} {st : List Value} {Cn ref : String} {T : u_T} {Nf ci idx a q0 : Nat} {fs : List Value} (he : ws[q0]? = some (a, .inr (ci, fs))) (hci : zcl[ci]? = some (Cn, T, Nf)) (hlay : ∀ w ∈ u_ws Cn T Nf, w ∈ tb) (ty0 : Nat → FieldType) (hty : ∀ k, k < Nf → parseFieldDescriptor (T k).2.2.1 = some (ty0 k)) (hnm : ∀ a, a < Nf → ∀ b, b < Nf → a ≠ b → (T a).2.1 ≠ (T b).2.1) (j : Nat) (hj : j < Nf) (hlink : Cond.fieldLink own idx ref (T j).2.1 (T j).2.2.1 ∈ tb) (hrf : (T j).1 = ref) (hfin : (T j).2.2.2 = false) {ty : FieldType} {v : Value} (hpd : parseFieldDescriptor (T j).2.2.1 = some ty) (hn : narrow ty v = v) (hfit : fits ty v = true) (hll : j < fs.length) (d : decode cc pc = .ok (.putfield idx, 3)) (k : VB G tys (ws.set q0 (a, .inr (ci, fs.set j v))) cn sn (pc + 3) lo st) : VB G tys ws cn sn pc lo (v :: .ref a :: st) := by
  obtain ⟨D, A, Q, l, p, e, R, s, m, args, below, meth, c⟩ := G
  obtain ⟨hx, hb, hr, hml, hown, hts, hN, hlk, hin, hA, hR⟩ := C
  intro H locs ls hK hP hD hS hl
  exact va_put (D := D) (ci := ci) (C := Cn) (T := T) (N := Nf) (v := v) hx hb hts hlay ty0 hty hnm hown hK hP hD hS q0 he hci j hj (hts _ hlink) (fun _ h => by rw [← hrf]; exact h) hfin hpd hn hfit hll d (fun H1 locs1 hP1 hD1 hS1 => k H1 locs1 ls hK hP1 hD1 hS1 hl)
theorem b_goto {G : zH} {cc : ByteArray} {own : String} {nL fr ce sl lc : Nat} (C : zB G cc own nL fr ce sl lc) {tys : List (ClassId × FieldType)} {ws : va_W} {cn sn pc : Nat} {lo : List (Option Value)} {st : List Value} {off : Int} {tgt : Nat} (d : decode cc pc = .ok (.goto off, 3)) (ht : (pc : Int) + off = (tgt : Int)) (k : VB G tys ws cn sn tgt lo st) : VB G tys ws cn sn pc lo st := by
  obtain ⟨D, A, Q, l, p, e, R, s, m, args, below, meth, c⟩ := G
  obtain ⟨hx, hb, hr, hml, hown, hts, hN, hlk, hin, hA, hR⟩ := C
  intro H locs ls hK hP hD hS hl
  exact lv_goto hx hb d ht (k H locs ls hK hP hD hS hl)
theorem b_ild1 {G : zH} {cc : ByteArray} {own : String} {nL fr ce sl lc : Nat} (C : zB G cc own nL fr ce sl lc) {tys : List (ClassId × FieldType)} {ws : va_W} {cn sn pc : Nat} {st : List Value} {r : List (Option Value)} {a0 : Option Value} {x : Int32} (d : decode cc pc = .ok (.iload_n 1, 1)) (k : VB G tys ws cn sn (pc + 1) (a0 :: some (.int x) :: r) (.int x :: st)) : VB G tys ws cn sn pc (a0 :: some (.int x) :: r) st := by
  obtain ⟨D, A, Q, l, p, e, R, s, m, args, below, meth, c⟩ := G
  obtain ⟨hx, hb, hr, hml, hown, hts, hN, hlk, hin, hA, hR⟩ := C
  intro H locs ls hK hP hD hS hl
  refine lv_iload_n hx hb d rfl (hl.2.2 1 _ rfl) ?_
  exact k H locs ls hK hP hD hS hl
theorem b_icmp_ge {G : zH} {cc : ByteArray} {own : String} {nL fr ce sl lc : Nat} (C : zB G cc own nL fr ce sl lc) {tys : List (ClassId × FieldType)} {ws : va_W} {cn sn pc : Nat} {lo : List (Option Value)} {st : List Value} {a b : Int} (ha : -2147483648 ≤ a ∧ a < 2147483648) (hb0 : -2147483648 ≤ b ∧ b < 2147483648) {off : Int} {tgt : Nat} (d : decode cc pc = .ok (.if_icmp .ge off, 3)) (ht : (pc : Int) + off = (tgt : Int)) (kt : b ≤ a → VB G tys ws cn sn tgt lo st) (kf : ¬ (b ≤ a) → VB G tys ws cn sn (pc + 3) lo st) : VB G tys ws cn sn pc lo (.int (iI b) :: .int (iI a) :: st) := by
  obtain ⟨D, A, Q, l, p, e, R, s, m, args, below, meth, c⟩ := G
  obtain ⟨hx, hb, hr, hml, hown, hts, hN, hlk, hin, hA, hR⟩ := C
  intro H locs ls hK hP hD hS hl
  exact lv_icmp_ge hx hb d ht (fun q => kt ((iI_le hb0 ha).mp q) H locs ls hK hP hD hS hl) (fun q => kf (fun z => q ((iI_le hb0 ha).mpr z)) H locs ls hK hP hD hS hl)
theorem b_get {G : zH} {cc : ByteArray} {own : String} {nL fr ce sl lc : Nat} (C : zB G cc own nL fr ce sl lc) {tys : List (ClassId × FieldType)} {ws : va_W} {cn sn pc : Nat} {lo : List (Option Value)} {st : List Value} {Cn ref : String} {T : u_T} {Nf ci idx a q0 : Nat} {fs : List Value} (he : ws[q0]? = some (a, .inr (ci, fs))) (hci : zcl[ci]? = some (Cn, T, Nf)) (hlay : ∀ w ∈ u_ws Cn T Nf, w ∈ tb) (j : Nat) (hj : j < Nf) (hlink : Cond.fieldLink own idx ref (T j).2.1 (T j).2.2.1 ∈ tb) (hrf : (T j).1 = ref) {v : Value} (hv : fs[j]? = some v) (d : decode cc pc = .ok (.getfield idx, 3)) (k : VB G tys ws cn sn (pc + 3) lo (v :: st)) : VB G tys ws cn sn pc lo (.ref a :: st) := by
  obtain ⟨D, A, Q, l, p, e, R, s, m, args, below, meth, c⟩ := G
  obtain ⟨hx, hb, hr, hml, hown, hts, hN, hlk, hin, hA, hR⟩ := C
  intro H locs ls hK hP hD hS hl
  exact va_get (D := D) (ci := ci) (C := Cn) (T := T) (N := Nf) hx hb hts hlay hown hK hP q0 he hci j hj (hts _ hlink) (fun _ h => by rw [← hrf]; exact h) hv d (k H locs ls hK hP hD hS hl)
theorem b_iast {G : zH} {cc : ByteArray} {own : String} {nL fr ce sl lc : Nat} (C : zB G cc own nL fr ce sl lc) {tys : List (ClassId × FieldType)} {ws : va_W} {cn sn pc : Nat} {lo : List (Option Value)} {st : List Value} {q0 t0 a n : Nat} {cA : ClassId} {f : Nat → Int32} {j z : Int} (he : ws[q0]? = some (a, .inl (cA, n, .inl f))) (ht : tys[t0]? = some (cA, .int)) (h0 : 0 ≤ j) (h1 : j < n) (hn : n < 2147483648) (d : decode cc pc = .ok (.iastore, 1)) (k : VB G tys (ws.set q0 (a, .inl (cA, n, .inl (upd f j.toNat (iI z))))) cn sn (pc + 1) lo st) : VB G tys ws cn sn pc lo (.int (iI z) :: .int (iI j) :: .ref a :: st) := by
  obtain ⟨D, A, Q, l, p, e, R, s, m, args, below, meth, c⟩ := G
  obtain ⟨hx, hb, hr, hml, hown, hts, hN, hlk, hin, hA, hR⟩ := C
  intro H locs ls hK hP hD hS hl
  obtain ⟨i1, i2⟩ := iI_in h0 h1 hn
  refine va_iast hx hb hK hP hD hS q0 t0 he ht i1 d (fun H1 locs1 hP1 hD1 hS1 => ?_)
  rw [i2] at hP1 hD1
  exact k H1 locs1 ls hK hP1 hD1 hS1 hl
theorem b_ist1 {G : zH} {cc : ByteArray} {own : String} {nL fr ce sl lc : Nat} (C : zB G cc own nL fr ce sl lc) {tys : List (ClassId × FieldType)} {ws : va_W} {cn sn : Nat} {r : List (Option Value)} {st : List Value} {pc : Nat} {a0 q0 : Option Value} {x : Int32} (h1 : zc1 a0 = true) (d : decode cc pc = .ok (.istore_n 1, 1)) (k : VB G tys ws cn sn (pc + 1) (a0 :: some (.int x) :: r) st) : VB G tys ws cn sn pc (a0 :: q0 :: r) (.int x :: st) := by
  obtain ⟨D, A, Q, l, p, e, R, s, m, args, below, meth, c⟩ := G
  obtain ⟨hx, hb, hr, hml, hown, hts, hN, hlk, hin, hA, hR⟩ := C
  intro H locs ls hK hP hD hS hl
  obtain ⟨ls', e', h'⟩ := lh_store1 (v := .int x) (i := 1) hl (by simp) rfl (lh_c1 (lo := (a0 :: q0 :: r)) (i := 1) (Or.inr ⟨0, _, rfl, rfl, h1⟩))
  intro T hT X
  obtain ⟨t, a, b⟩ := k H locs ls' hK hP hD hS h' T hT X
  refine ⟨t, ?_, b⟩
  jvm_step X.here [X.here.top, hx, hb, d, e', Value.isRef]
  exact a
theorem b_iinc1 {G : zH} {cc : ByteArray} {own : String} {nL fr ce sl lc : Nat} (C : zB G cc own nL fr ce sl lc) {tys : List (ClassId × FieldType)} {ws : va_W} {cn sn : Nat} {r : List (Option Value)} {st : List Value} {pc : Nat} {a0 : Option Value} {z n : Int} (h1 : zc1 a0 = true) (d : decode cc pc = .ok (.iinc 1 n, 3)) (k : VB G tys ws cn sn (pc + 3) (a0 :: some (.int (iI (z + n))) :: r) st) : VB G tys ws cn sn pc (a0 :: some (.int (iI z)) :: r) st := by
  obtain ⟨D, A, Q, l, p, e, R, s, m, args, below, meth, c⟩ := G
  obtain ⟨hx, hb, hr, hml, hown, hts, hN, hlk, hin, hA, hR⟩ := C
  intro H locs ls hK hP hD hS hl
  obtain ⟨ls', e', h'⟩ := lh_store1 (v := .int (iI (z + n))) (i := 1) hl (by simp) rfl (lh_c1 (lo := (a0 :: some (.int (iI z)) :: r)) (i := 1) (Or.inr ⟨0, _, rfl, rfl, h1⟩))
  have hg : ls[1]? = some (.val (.int (iI z))) := hl.2.2 1 _ rfl
  have e2 : iI z + Int32.ofInt n = iI (z + n) := iI_add z n
  intro T hT X
  obtain ⟨t, a, b⟩ := k H locs ls' hK hP hD hS h' T hT X
  refine ⟨t, ?_, b⟩
  rw [← e2] at e'
  jvm_step X.here [X.here.top, hx, hb, d, hg, e']
  exact a
theorem b_imul {G : zH} {cc : ByteArray} {own : String} {nL fr ce sl lc : Nat} (C : zB G cc own nL fr ce sl lc) {tys : List (ClassId × FieldType)} {ws : va_W} {cn sn : Nat} {lo : List (Option Value)} {st : List Value} {pc : Nat} {a b : Int} (d : decode cc pc = .ok (.imul, 1)) (k : VB G tys ws cn sn (pc + 1) lo (.int (iI (a * b)) :: st)) : VB G tys ws cn sn pc lo (.int (iI b) :: .int (iI a) :: st) := by
  obtain ⟨D, A, Q, l, p, e, R, s, m, args, below, meth, c⟩ := G
  obtain ⟨hx, hb, hr, hml, hown, hts, hN, hlk, hin, hA, hR⟩ := C
  intro H locs ls hK hP hD hS hl
  refine lv_imul hx hb d ?_
  rw [iI_mul]
  exact k H locs ls hK hP hD hS hl
theorem b_iadd {G : zH} {cc : ByteArray} {own : String} {nL fr ce sl lc : Nat} (C : zB G cc own nL fr ce sl lc) {tys : List (ClassId × FieldType)} {ws : va_W} {cn sn : Nat} {lo : List (Option Value)} {st : List Value} {pc : Nat} {a b : Int} (d : decode cc pc = .ok (.iadd, 1)) (k : VB G tys ws cn sn (pc + 1) lo (.int (iI (a + b)) :: st)) : VB G tys ws cn sn pc lo (.int (iI b) :: .int (iI a) :: st) := by
  obtain ⟨D, A, Q, l, p, e, R, s, m, args, below, meth, c⟩ := G
  obtain ⟨hx, hb, hr, hml, hown, hts, hN, hlk, hin, hA, hR⟩ := C
  intro H locs ls hK hP hD hS hl
  refine lv_iadd hx hb d ?_
  rw [iI_add]
  exact k H locs ls hK hP hD hS hl
theorem b_ild2 {G : zH} {cc : ByteArray} {own : String} {nL fr ce sl lc : Nat} (C : zB G cc own nL fr ce sl lc) {tys : List (ClassId × FieldType)} {ws : va_W} {cn sn : Nat} {r : List (Option Value)} {st : List Value} {pc : Nat} {a0 a1 : Option Value} {x : Int32} (d : decode cc pc = .ok (.iload_n 2, 1)) (k : VB G tys ws cn sn (pc + 1) (a0 :: a1 :: some (.int x) :: r) (.int x :: st)) : VB G tys ws cn sn pc (a0 :: a1 :: some (.int x) :: r) st := by
  obtain ⟨D, A, Q, l, p, e, R, s, m, args, below, meth, c⟩ := G
  obtain ⟨hx, hb, hr, hml, hown, hts, hN, hlk, hin, hA, hR⟩ := C
  intro H locs ls hK hP hD hS hl
  refine lv_iload_n hx hb d rfl (hl.2.2 2 _ rfl) ?_
  exact k H locs ls hK hP hD hS hl
theorem b_ist2 {G : zH} {cc : ByteArray} {own : String} {nL fr ce sl lc : Nat} (C : zB G cc own nL fr ce sl lc) {tys : List (ClassId × FieldType)} {ws : va_W} {cn sn : Nat} {r : List (Option Value)} {st : List Value} {pc : Nat} {a0 a1 q0 : Option Value} {x : Int32} (h1 : zc1 a1 = true) (d : decode cc pc = .ok (.istore_n 2, 1)) (k : VB G tys ws cn sn (pc + 1) (a0 :: a1 :: some (.int x) :: r) st) : VB G tys ws cn sn pc (a0 :: a1 :: q0 :: r) (.int x :: st) := by
  obtain ⟨D, A, Q, l, p, e, R, s, m, args, below, meth, c⟩ := G
  obtain ⟨hx, hb, hr, hml, hown, hts, hN, hlk, hin, hA, hR⟩ := C
  intro H locs ls hK hP hD hS hl
  obtain ⟨ls', e', h'⟩ := lh_store1 (v := .int x) (i := 2) hl (by simp) rfl (lh_c1 (lo := (a0 :: a1 :: q0 :: r)) (i := 2) (Or.inr ⟨1, _, rfl, rfl, h1⟩))
  intro T hT X
  obtain ⟨t, a, b⟩ := k H locs ls' hK hP hD hS h' T hT X
  refine ⟨t, ?_, b⟩
  jvm_step X.here [X.here.top, hx, hb, d, e', Value.isRef]
  exact a
theorem b_iinc2 {G : zH} {cc : ByteArray} {own : String} {nL fr ce sl lc : Nat} (C : zB G cc own nL fr ce sl lc) {tys : List (ClassId × FieldType)} {ws : va_W} {cn sn : Nat} {r : List (Option Value)} {st : List Value} {pc : Nat} {a0 a1 : Option Value} {z n : Int} (h1 : zc1 a1 = true) (d : decode cc pc = .ok (.iinc 2 n, 3)) (k : VB G tys ws cn sn (pc + 3) (a0 :: a1 :: some (.int (iI (z + n))) :: r) st) : VB G tys ws cn sn pc (a0 :: a1 :: some (.int (iI z)) :: r) st := by
  obtain ⟨D, A, Q, l, p, e, R, s, m, args, below, meth, c⟩ := G
  obtain ⟨hx, hb, hr, hml, hown, hts, hN, hlk, hin, hA, hR⟩ := C
  intro H locs ls hK hP hD hS hl
  obtain ⟨ls', e', h'⟩ := lh_store1 (v := .int (iI (z + n))) (i := 2) hl (by simp) rfl (lh_c1 (lo := (a0 :: a1 :: some (.int (iI z)) :: r)) (i := 2) (Or.inr ⟨1, _, rfl, rfl, h1⟩))
  have hg : ls[2]? = some (.val (.int (iI z))) := hl.2.2 2 _ rfl
  have e2 : iI z + Int32.ofInt n = iI (z + n) := iI_add z n
  intro T hT X
  obtain ⟨t, a, b⟩ := k H locs ls' hK hP hD hS h' T hT X
  refine ⟨t, ?_, b⟩
  rw [← e2] at e'
  jvm_step X.here [X.here.top, hx, hb, d, hg, e']
  exact a
theorem b_new {G : zH} {cc : ByteArray} {own : String} {nL fr ce sl lc : Nat} (C : zB G cc own nL fr ce sl lc) {tys : List (ClassId × FieldType)} {ws : va_W} {cn sn pc : Nat} {lo : List (Option Value)} {st : List Value} {Cn : String} {T : u_T} {Nf ci idx : Nat} {fs : List Value} (hlay : ∀ w ∈ u_ws Cn T Nf, w ∈ tb) (ty0 : Nat → FieldType) (hty : ∀ k, k < Nf → parseFieldDescriptor (T k).2.2.1 = some (ty0 k)) (hcl : Cond.classLink own idx Cn ∈ tb) (hinst : Cond.instantiable Cn Nf ∈ tb) (hini : Cond.initialized Cn ∈ tb) (hci : zcl[ci]? = some (Cn, T, Nf)) (hfs : ∀ j, j < Nf → defaultValue (ty0 j) = vp_V fs j) (hc : cn + 1 ≤ ce) (hs : sn + Nf ≤ sl) (d : decode cc pc = .ok (.new idx, 3)) (k : ∀ q : Nat, VB G tys (ws ++ [(q, .inr (ci, fs))]) (cn + 1) (sn + Nf) (pc + 3) lo (.ref q :: st)) : VB G tys ws cn sn pc lo st := by
  obtain ⟨D, A, Q, l, p, e, R, s, m, args, below, meth, c⟩ := G
  obtain ⟨hx, hb, hr, hml, hown, hts, hN, hlk, hin, hA, hR⟩ := C
  intro H locs ls hK hP hD hS hl
  subst hR
  exact va_new (ci := ci) (fs := fs) (C := Cn) (T := T) (N := Nf) hx hb hts hlay ty0 hty hown (hts _ hcl) (hts _ hinst) (hts _ hini) hK hP hD hS hA hci hfs hc hs d (fun q H1 hP hD hS => k q H1 locs ls hK hP hD hS hl)
/-- a constructor's contract: of the fresh object alone, a world that P says of -/
def zIq (D : va_G) (w0 : Nat × va_E) (sz : Nat) (P : List (ClassId × FieldType) → va_W → Prop) : Array Value → State → Outcome → State → Prop := fun _ st oc t => (∃ (tys : List (ClassId × FieldType)) (ws : va_W), oc = .returned none ∧ P tys ws ∧ va_P D zcl ws t.heap ∧ va_D (va_A [w0] sz) ws ∧ va_K D zcl tys t ∧ zN t) ∧ va_F (va_A [w0] sz) st t
def zIp (D : va_G) (w0 : Nat × va_E) (sz : Nat) : State → Prop := fun U => U.heap.size = sz ∧ va_P D zcl [w0] U.heap ∧ va_D (fun _ => True) [w0] ∧ va_K D zcl [] U ∧ zN U
def zKi (l : Launch) (D : va_G) (y : MethodName) (bytes : ByteArray) (maxL fr ce sl lc h0 : Nat) (e0 : va_E) (sz : Nat) (P : List (ClassId × FieldType) → va_W → Prop) : Prop :=
  Met l y (Cond.code y bytes maxL none :: tb) { frames := fr, cells := ce, slots := sl, locals := lc } (va_Pc [.ref h0] (zIp D (h0, e0) sz)) (zIq D (h0, e0) sz P) ce sl (va_A [(h0, e0)] sz)
theorem zKi.of {l : Launch} {D : va_G} {y : MethodName} {bytes : ByteArray} {maxL fr ce sl lc h0 sz : Nat} {e0 : va_E} {P : List (ClassId × FieldType) → va_W → Prop} (own : String) (ho : y.cls = own) (hnm : y.name = "<init>") (hy : plainName y.cls = true) (hlen : 1 ≤ maxL)
    (body : ∀ G : zH, G.1 = D → G.2.1 = va_A [(h0, e0)] sz → (∃ (bl : List Frame) (ar : Array Value) (s : State), G.2.2.1 = MQ bl (zIq D (h0, e0) sz P) ar s ce sl (va_A [(h0, e0)] sz) ∧ bl = G.2.2.2.2.2.2.2.2.2.2.1 ∧ ar = G.2.2.2.2.2.2.2.2.2.1 ∧ s = G.2.2.2.2.2.2.2.1) → G.2.2.2.1 = l → zB G bytes own maxL fr ce sl lc → VB G [] [(h0, e0)] 0 0 0 (some (.ref h0) :: List.replicate (maxL - 1) none) []) : zKi l D y bytes maxL fr ce sl lc h0 e0 sz P := by
  refine Met.ofW (cc := bytes) (maxL := maxL) (ret := none) hy rfl ?_
  intro p e s m args below meth c s₁ B hml hv
  obtain ⟨rfl, hsz, hP, hD, hK, hN⟩ := hv
  have hts := atoms_spec (ws := Cond.code y bytes maxL none :: tb) B.pre
  have hown : s.vm.findClass own = some m.cls := ho ▸ findClass_of_methodNamed B.named
  have hin : meth.name = "<init>" := (name_of_methodNamed B.named B.method).1.trans hnm
  subst hsz
  have hb := body (D, va_A [(h0, e0)] s.heap.size, MQ below (zIq D (h0, e0) s.heap.size P) [Value.ref h0].toArray s ce sl (va_A [(h0, e0)] s.heap.size), l, p, e, (headSpec (Cond.code y bytes maxL none :: tb) { frames := fr, cells := ce, slots := sl, locals := lc }).room, s, m, [Value.ref h0].toArray, below, meth, c) rfl rfl ⟨_, _, _, rfl, rfl, rfl, rfl⟩ rfl ⟨B.exec, B.bytes, B.returns, hml, hown, fun w hw => hts w (List.mem_cons_of_mem _ hw), hN, B.notSynchronized, hin, fun q h => Or.inr h, rfl⟩
  rw [lg_entry_eq]
  exact hb s.heap [] _ hK hP hD.self va_S.rf (lh_entry (vs := [Value.ref h0]) (show (zlo [Value.ref h0]).length ≤ maxL from hlen))
theorem b_ret {G : zH} {cc : ByteArray} {own : String} {nL fr ce sl lc : Nat} (C : zB G cc own nL fr ce sl lc) {tys : List (ClassId × FieldType)} {ws : va_W} {pc cn sn h0 sz : Nat} {e0 : va_E} {D : va_G} {lo : List (Option Value)} {P : List (ClassId × FieldType) → va_W → Prop} (h1 : G.1 = D) (h2 : G.2.1 = va_A [(h0, e0)] sz) (hQ : ∃ (bl : List Frame) (ar : Array Value) (s : State), G.2.2.1 = MQ bl (zIq D (h0, e0) sz P) ar s ce sl (va_A [(h0, e0)] sz) ∧ bl = G.2.2.2.2.2.2.2.2.2.2.1 ∧ ar = G.2.2.2.2.2.2.2.2.2.1 ∧ s = G.2.2.2.2.2.2.2.1) (hcn : cn ≤ ce) (hsn : sn ≤ sl) (h : P tys ws) (d : decode cc pc = .ok (.return_, 1)) : VB G tys ws cn sn pc lo [] := by
  obtain ⟨D', A, Q, l, p, e, R, s, m, args, below, meth, c⟩ := G
  obtain ⟨hx, hb, hr, hml, hown, hts, hN, hlk, hin, hA, hR⟩ := C
  obtain ⟨bl, ar, s', hQ, e1, e2, e3⟩ := hQ
  intro H locs ls hK hP hD hS hl
  have h1 : D' = D := h1
  have h2 : A = va_A [(h0, e0)] sz := h2
  have e1 : bl = below := e1
  have e2 : ar = args := e2
  have e3 : s' = s := e3
  have hQ : Q = MQ bl (zIq D (h0, e0) sz P) ar s' ce sl (va_A [(h0, e0)] sz) := hQ
  subst h1 h2 e1 e2 e3 hQ
  refine W.widen (k := ce) (n := sl) hcn hsn ?_
  exact W.vret hx hb hr (fun t ht hW => ⟨⟨tys, ws, rfl, h, by rw [ht]; exact hP, hD, va_K.moved hW.alike hK, hN.warm hW⟩, hS.F ht⟩) hS.2.2 d
