/-! what is being made: a world that grows -/
def zT (cl : Nat → ClassId) : List (ClassId × FieldType) := [(cl 0, .int), (cl 1, .boolean), (cl 2, .long), (cl 3, .object "OldBeams$Beam"), (cl 4, .array .int)]
def zO (U : State) : Prop := va_AO "OldBeams$Beam" U ∧ (Cond.arrayOver (.array .int)).before #[] U = true
theorem zO.moved {u U : State} (hvm : u.vm.Alike U.vm) (h : zO u) : zO U := ⟨h.1.moved hvm, over_moved (a := #[]) (a' := #[]) hvm h.2⟩
theorem zuq {U : State} {c c' : ClassId} {ty : FieldType} (h : va_RA U c ty) (h' : va_RA U c' ty) : c = c' := by
  cases ty with
  | object C =>
    obtain ⟨_, _, _, _, _, h⟩ := h
    obtain ⟨_, _, _, _, _, h'⟩ := h'
    exact Option.some.inj (h.symm.trans h')
  | _ => exact Option.some.inj (h.symm.trans h')
abbrev zH : Type := va_G × (Nat → Prop) × (State → Prop) × Launch × Program × Env × Room × State × MethodId × Array Value × List Frame × Method × Code
def VB (G : zH) (ws : va_W) (cn sn pc : Nat) (lo : List (Option Value)) (st : List Value) : Prop := match G with
  | (D, A, Q, l, p, e, R, s, m, args, below, meth, c) => ∀ (H : Heap) (locs : List Loc) (ls : Array Slot), va_P D zcl ws H → va_D A ws → va_S A s.heap H locs → lh ls lo → W p l e R s m args below meth c H locs cn sn Q (F0 m pc ls st)
def zB (G : zH) (cc : ByteArray) (own : String) (nL fr ce sl lc : Nat) (cl : Nat → ClassId) : Prop := match G with
  | (D, A, Q, l, p, e, R, s, m, args, below, meth, c) => p.tables.exec = Jvm.exec ∧ c.code = cc ∧ meth.sig.returnType = none ∧ c.maxLocals = nL ∧ s.vm.findClass own = some m.cls ∧ (∀ w ∈ tb, w.before args s = true) ∧ zN s ∧ meth.locks = false ∧ meth.name = "<init>" ∧ (∀ q, s.heap.size ≤ q → A q) ∧ R = { frames := fr, cells := ce, slots := sl, locals := lc } ∧ va_K D zcl (zT cl) s ∧ zO s
theorem b_iconst {G : zH} {cc : ByteArray} {own : String} {nL fr ce sl lc : Nat} {cl : Nat → ClassId} (C : zB G cc own nL fr ce sl lc cl) {ws : va_W} {cn sn pc : Nat} {lo : List (Option Value)} {st : List Value} {n : Int} (d : decode cc pc = .ok (.iconst n, 1)) (k : VB G ws cn sn (pc + 1) lo (.int (iI n) :: st)) : VB G ws cn sn pc lo st := by
  obtain ⟨D, A, Q, l, p, e, R, s, m, args, below, meth, c⟩ := G
  obtain ⟨hx, hb, hr, hml, hown, hts, hN, hlk, hin, hA, hR, hK, hO⟩ := C
  intro H locs ls hP hD hS hl
  refine lv_iconst hx hb d rfl ?_
  exact k H locs ls hP hD hS hl
theorem b_bipush {G : zH} {cc : ByteArray} {own : String} {nL fr ce sl lc : Nat} {cl : Nat → ClassId} (C : zB G cc own nL fr ce sl lc cl) {ws : va_W} {cn sn pc : Nat} {lo : List (Option Value)} {st : List Value} {n : Int} (hn : (Int8.ofInt n).toInt32 = iI n) (d : decode cc pc = .ok (.bipush n, 2)) (k : VB G ws cn sn (pc + 2) lo (.int (iI n) :: st)) : VB G ws cn sn pc lo st := by
  obtain ⟨D, A, Q, l, p, e, R, s, m, args, below, meth, c⟩ := G
  obtain ⟨hx, hb, hr, hml, hown, hts, hN, hlk, hin, hA, hR, hK, hO⟩ := C
  intro H locs ls hP hD hS hl
  refine lv_bipush hx hb d hn ?_
  exact k H locs ls hP hD hS hl
theorem b_sipush {G : zH} {cc : ByteArray} {own : String} {nL fr ce sl lc : Nat} {cl : Nat → ClassId} (C : zB G cc own nL fr ce sl lc cl) {ws : va_W} {cn sn pc : Nat} {lo : List (Option Value)} {st : List Value} {n : Int} (hn : (Int16.ofInt n).toInt32 = iI n) (d : decode cc pc = .ok (.sipush n, 3)) (k : VB G ws cn sn (pc + 3) lo (.int (iI n) :: st)) : VB G ws cn sn pc lo st := by
  obtain ⟨D, A, Q, l, p, e, R, s, m, args, below, meth, c⟩ := G
  obtain ⟨hx, hb, hr, hml, hown, hts, hN, hlk, hin, hA, hR, hK, hO⟩ := C
  intro H locs ls hP hD hS hl
  refine lv_sipush hx hb d hn ?_
  exact k H locs ls hP hD hS hl
theorem b_lconst {G : zH} {cc : ByteArray} {own : String} {nL fr ce sl lc : Nat} {cl : Nat → ClassId} (C : zB G cc own nL fr ce sl lc cl) {ws : va_W} {cn sn pc : Nat} {lo : List (Option Value)} {st : List Value} {n : Fin 2} {v : Int64} (hv : Int64.ofNat (n : Nat) = v) (d : decode cc pc = .ok (.lconst n, 1)) (k : VB G ws cn sn (pc + 1) lo (.long v :: st)) : VB G ws cn sn pc lo st := by
  obtain ⟨D, A, Q, l, p, e, R, s, m, args, below, meth, c⟩ := G
  obtain ⟨hx, hb, hr, hml, hown, hts, hN, hlk, hin, hA, hR, hK, hO⟩ := C
  intro H locs ls hP hD hS hl
  refine lv_lconst hx hb d hv ?_
  exact k H locs ls hP hD hS hl
theorem b_dup {G : zH} {cc : ByteArray} {own : String} {nL fr ce sl lc : Nat} {cl : Nat → ClassId} (C : zB G cc own nL fr ce sl lc cl) {ws : va_W} {cn sn pc : Nat} {lo : List (Option Value)} {st : List Value} {v : Value} (hv : v.category = 1) (d : decode cc pc = .ok (.dup, 1)) (k : VB G ws cn sn (pc + 1) lo (v :: v :: st)) : VB G ws cn sn pc lo (v :: st) := by
  obtain ⟨D, A, Q, l, p, e, R, s, m, args, below, meth, c⟩ := G
  obtain ⟨hx, hb, hr, hml, hown, hts, hN, hlk, hin, hA, hR, hK, hO⟩ := C
  intro H locs ls hP hD hS hl
  refine lv_dup hx hb d hv ?_
  exact k H locs ls hP hD hS hl
theorem b_ald0 {G : zH} {cc : ByteArray} {own : String} {nL fr ce sl lc : Nat} {cl : Nat → ClassId} (C : zB G cc own nL fr ce sl lc cl) {ws : va_W} {cn sn pc : Nat} {st : List Value} {r : List (Option Value)} {x : Nat} (d : decode cc pc = .ok (.aload_n 0, 1)) (k : VB G ws cn sn (pc + 1) (some (.ref x) :: r) (.ref x :: st)) : VB G ws cn sn pc (some (.ref x) :: r) st := by
  obtain ⟨D, A, Q, l, p, e, R, s, m, args, below, meth, c⟩ := G
  obtain ⟨hx, hb, hr, hml, hown, hts, hN, hlk, hin, hA, hR, hK, hO⟩ := C
  intro H locs ls hP hD hS hl
  refine lv_aload_n hx hb d rfl (hl.2.2 0 _ rfl) ?_
  exact k H locs ls hP hD hS hl
theorem nn_iI {N : Nat} (h : N < 2147483648) : ¬ iI (N : Int) < 0 := by
  rw [show (0 : Int32) = iI 0 from rfl, iI_lt (by omega) (by omega)]
  omega
theorem tn_iI {N : Nat} (h : N < 2147483648) : (iI (N : Int)).toNatClampNeg = N := by
  show (iI (N : Int)).toInt.toNat = N
  rw [iI_toInt (by omega), Int.toNat_natCast]
theorem b_newaI {G : zH} {cc : ByteArray} {own : String} {nL fr ce sl lc : Nat} {cl : Nat → ClassId} (C : zB G cc own nL fr ce sl lc cl) {ws : va_W} {cn sn pc : Nat} {lo : List (Option Value)} {st : List Value} {n : Int} {N : Nat} (hN : n = (N : Int)) (h31 : N < 67108864) (hc : cn + 1 ≤ ce) (hs : sn + N ≤ sl) (ht : Cond.arrayClass .int ∈ tb) (d : decode cc pc = .ok (.newarray .int, 2)) (k : ∀ (q : Nat), VB G (ws ++ [(q, .inl (cl 0, N, .inl (fun _ => 0)))]) (cn + 1) (sn + N) (pc + 2) lo (.ref q :: st)) : VB G ws cn sn pc lo (.int (iI n) :: st) := by
  obtain ⟨D, A, Q, l, p, e, R, s, m, args, below, meth, c⟩ := G
  obtain ⟨hx, hb, hr, hml, hown, hts, hN0, hlk, hin, hA, hR, hK, hO⟩ := C
  intro H locs ls hP hD hS hl
  subst hR
  subst hN
  refine va_newa (atype := .int) hx hb (hts _ ht) rfl hK hP hD hS hA (N' := N) (a0 := (N, .inl (fun _ => 0))) (fun _ => rfl) ?_ ?_ ?_ hc hs d (fun q cA H1 hK' hP hD hS => ?_)
  · exact nn_iI (by omega)
  · exact tn_iI (by omega)
  · show N * 4 ≤ 536870912
    omega
  · have e : cA = cl 0 := zuq (ty := .int) (hK'.2 5 _ rfl).2 (hK.2 0 _ rfl).2
    subst e
    exact k q H1 locs ls hP hD hS hl
theorem b_newaZ {G : zH} {cc : ByteArray} {own : String} {nL fr ce sl lc : Nat} {cl : Nat → ClassId} (C : zB G cc own nL fr ce sl lc cl) {ws : va_W} {cn sn pc : Nat} {lo : List (Option Value)} {st : List Value} {n : Int} {N : Nat} (hN : n = (N : Int)) (h31 : N < 67108864) (hc : cn + 1 ≤ ce) (hs : sn + N ≤ sl) (ht : Cond.arrayClass .boolean ∈ tb) (d : decode cc pc = .ok (.newarray .boolean, 2)) (k : ∀ (q : Nat), VB G (ws ++ [(q, .inl (cl 1, N, .inl (fun _ => 0)))]) (cn + 1) (sn + N) (pc + 2) lo (.ref q :: st)) : VB G ws cn sn pc lo (.int (iI n) :: st) := by
  obtain ⟨D, A, Q, l, p, e, R, s, m, args, below, meth, c⟩ := G
  obtain ⟨hx, hb, hr, hml, hown, hts, hN0, hlk, hin, hA, hR, hK, hO⟩ := C
  intro H locs ls hP hD hS hl
  subst hR
  subst hN
  refine va_newa (atype := .boolean) hx hb (hts _ ht) rfl hK hP hD hS hA (N' := N) (a0 := (N, .inl (fun _ => 0))) (fun _ => rfl) ?_ ?_ ?_ hc hs d (fun q cA H1 hK' hP hD hS => ?_)
  · exact nn_iI (by omega)
  · exact tn_iI (by omega)
  · show N * 1 ≤ 536870912
    omega
  · have e : cA = cl 1 := zuq (ty := .boolean) (hK'.2 5 _ rfl).2 (hK.2 1 _ rfl).2
    subst e
    exact k q H1 locs ls hP hD hS hl
theorem b_newaJ {G : zH} {cc : ByteArray} {own : String} {nL fr ce sl lc : Nat} {cl : Nat → ClassId} (C : zB G cc own nL fr ce sl lc cl) {ws : va_W} {cn sn pc : Nat} {lo : List (Option Value)} {st : List Value} {n : Int} {N : Nat} (hN : n = (N : Int)) (h31 : N < 67108864) (hc : cn + 1 ≤ ce) (hs : sn + N ≤ sl) (ht : Cond.arrayClass .long ∈ tb) (d : decode cc pc = .ok (.newarray .long, 2)) (k : ∀ (q : Nat), VB G (ws ++ [(q, .inl (cl 2, N, .inr (.inl (fun _ => 0))))]) (cn + 1) (sn + N) (pc + 2) lo (.ref q :: st)) : VB G ws cn sn pc lo (.int (iI n) :: st) := by
  obtain ⟨D, A, Q, l, p, e, R, s, m, args, below, meth, c⟩ := G
  obtain ⟨hx, hb, hr, hml, hown, hts, hN0, hlk, hin, hA, hR, hK, hO⟩ := C
  intro H locs ls hP hD hS hl
  subst hR
  subst hN
  refine va_newa (atype := .long) hx hb (hts _ ht) rfl hK hP hD hS hA (N' := N) (a0 := (N, .inr (.inl (fun _ => 0)))) (fun _ => rfl) ?_ ?_ ?_ hc hs d (fun q cA H1 hK' hP hD hS => ?_)
  · exact nn_iI (by omega)
  · exact tn_iI (by omega)
  · show N * 8 ≤ 536870912
    omega
  · have e : cA = cl 2 := zuq (ty := .long) (hK'.2 5 _ rfl).2 (hK.2 2 _ rfl).2
    subst e
    exact k q H1 locs ls hP hD hS hl
theorem b_obj {G : zH} {cc : ByteArray} {own : String} {nL fr ce sl lc : Nat} {cl : Nat → ClassId} (C : zB G cc own nL fr ce sl lc cl) {ws : va_W} {cn sn pc : Nat} {lo : List (Option Value)} {st : List Value} {idx a : Nat} (hlink : Cond.methodLink own idx ⟨"java/lang/Object", "<init>", "()V"⟩ ∈ tb) (hf : 1 ≤ fr) (hlc : 20 ≤ lc) (hnl : lo.length = nL) (hst : (st.map fun v => v.category).sum ≤ 8) (d : decode cc pc = .ok (.invokespecial idx, 3)) (k : VB G ws cn sn (pc + 3) lo st) : VB G ws cn sn pc lo (.ref a :: st) := by
  obtain ⟨D, A, Q, l, p, e, R, s, m, args, below, meth, c⟩ := G
  obtain ⟨hx, hb, hr, hml, hown, hts, hN, hlk, hin, hA, hR, hK, hO⟩ := C
  intro H locs ls hP hD hS hl
  subst hR
  refine W.objInit (a := a) (rest := st) hx hb hown (hts _ hlink) (hts _ k_16) (hts _ k_17) rfl (by rw [hml]; exact hl.1.trans hnl) rfl d hf ?_ ?_
  · have h0 : (F0 m pc ls (.ref a :: st)).monitorRoom = 0 := rfl
    show 2 * (F0 m pc ls (.ref a :: st)).monitorRoom + (st.map fun v => v.category).sum + 12 ≤ lc
    rw [h0]
    omega
  · exact W.eq (g2 := F0 m (pc + 3) ls st) rfl (k H locs ls hP hD hS hl)
theorem b_putF {G : zH} {cc : ByteArray} {own : String} {nL fr ce sl lc : Nat} {cl : Nat → ClassId} (C : zB G cc own nL fr ce sl lc cl) {ws : va_W} {cn sn pc : Nat} {lo : List (Option Value)} {st : List Value} {Cn ref : String} {T : u_T} {Nf ci idx a q0 : Nat} {fs : List Value} (he : ws[q0]? = some (a, .inr (ci, fs))) (hci : zcl[ci]? = some (Cn, T, Nf)) (hlay : ∀ w ∈ u_ws Cn T Nf, w ∈ tb) (ty0 : Nat → FieldType) (hty : ∀ k, k < Nf → parseFieldDescriptor (T k).2.2.1 = some (ty0 k)) (hnm : ∀ a, a < Nf → ∀ b, b < Nf → a ≠ b → (T a).2.1 ≠ (T b).2.1) (j : Nat) (hj : j < Nf) (hlink : Cond.fieldLink own idx ref (T j).2.1 (T j).2.2.1 ∈ tb) (hrf : (T j).1 = ref) (hfin : (T j).2.2.2 = true) (hdc : (T j).1 = own) {ty : FieldType} {v : Value} (hpd : parseFieldDescriptor (T j).2.2.1 = some ty) (hn : narrow ty v = v) (hfit : fits ty v = true) (hll : j < fs.length) (d : decode cc pc = .ok (.putfield idx, 3)) (k : VB G (ws.set q0 (a, .inr (ci, fs.set j v))) cn sn (pc + 3) lo st) : VB G ws cn sn pc lo (v :: .ref a :: st) := by
  obtain ⟨D, A, Q, l, p, e, R, s, m, args, below, meth, c⟩ := G
  obtain ⟨hx, hb, hr, hml, hown, hts, hN, hlk, hin, hA, hR, hK, hO⟩ := C
  intro H locs ls hP hD hS hl
  exact va_putF (D := D) (ci := ci) (C := Cn) (T := T) (N := Nf) (v := v) hx hb hts hlay ty0 hty hnm hown hK hP hD hS q0 he hci j hj (hts _ hlink) (fun _ h => by rw [← hrf]; exact h) hfin hin hdc hpd hn hfit hll d (fun H1 locs1 hP1 hD1 hS1 => k H1 locs1 ls hP1 hD1 hS1 hl)
theorem b_put {G : zH} {cc : ByteArray} {own : String} {nL fr ce sl lc : Nat} {cl : Nat → ClassId} (C : zB G cc own nL fr ce sl lc cl) {ws : va_W} {cn sn pc : Nat} {lo : List (Option Value)} {st : List Value} {Cn ref : String} {T : u_T} {Nf ci idx a q0 : Nat} {fs : List Value} (he : ws[q0]? = some (a, .inr (ci, fs))) (hci : zcl[ci]? = some (Cn, T, Nf)) (hlay : ∀ w ∈ u_ws Cn T Nf, w ∈ tb) (ty0 : Nat → FieldType) (hty : ∀ k, k < Nf → parseFieldDescriptor (T k).2.2.1 = some (ty0 k)) (hnm : ∀ a, a < Nf → ∀ b, b < Nf → a ≠ b → (T a).2.1 ≠ (T b).2.1) (j : Nat) (hj : j < Nf) (hlink : Cond.fieldLink own idx ref (T j).2.1 (T j).2.2.1 ∈ tb) (hrf : (T j).1 = ref) (hfin : (T j).2.2.2 = false) {ty : FieldType} {v : Value} (hpd : parseFieldDescriptor (T j).2.2.1 = some ty) (hn : narrow ty v = v) (hfit : fits ty v = true) (hll : j < fs.length) (d : decode cc pc = .ok (.putfield idx, 3)) (k : VB G (ws.set q0 (a, .inr (ci, fs.set j v))) cn sn (pc + 3) lo st) : VB G ws cn sn pc lo (v :: .ref a :: st) := by
  obtain ⟨D, A, Q, l, p, e, R, s, m, args, below, meth, c⟩ := G
  obtain ⟨hx, hb, hr, hml, hown, hts, hN, hlk, hin, hA, hR, hK, hO⟩ := C
  intro H locs ls hP hD hS hl
  exact va_put (D := D) (ci := ci) (C := Cn) (T := T) (N := Nf) (v := v) hx hb hts hlay ty0 hty hnm hown hK hP hD hS q0 he hci j hj (hts _ hlink) (fun _ h => by rw [← hrf]; exact h) hfin hpd hn hfit hll d (fun H1 locs1 hP1 hD1 hS1 => k H1 locs1 ls hP1 hD1 hS1 hl)
theorem b_goto {G : zH} {cc : ByteArray} {own : String} {nL fr ce sl lc : Nat} {cl : Nat → ClassId} (C : zB G cc own nL fr ce sl lc cl) {ws : va_W} {cn sn pc : Nat} {lo : List (Option Value)} {st : List Value} {off : Int} {tgt : Nat} (d : decode cc pc = .ok (.goto off, 3)) (ht : (pc : Int) + off = (tgt : Int)) (k : VB G ws cn sn tgt lo st) : VB G ws cn sn pc lo st := by
  obtain ⟨D, A, Q, l, p, e, R, s, m, args, below, meth, c⟩ := G
  obtain ⟨hx, hb, hr, hml, hown, hts, hN, hlk, hin, hA, hR, hK, hO⟩ := C
  intro H locs ls hP hD hS hl
  exact lv_goto hx hb d ht (k H locs ls hP hD hS hl)
theorem b_ild1 {G : zH} {cc : ByteArray} {own : String} {nL fr ce sl lc : Nat} {cl : Nat → ClassId} (C : zB G cc own nL fr ce sl lc cl) {ws : va_W} {cn sn pc : Nat} {st : List Value} {r : List (Option Value)} {a0 : Option Value} {x : Int32} (d : decode cc pc = .ok (.iload_n 1, 1)) (k : VB G ws cn sn (pc + 1) (a0 :: some (.int x) :: r) (.int x :: st)) : VB G ws cn sn pc (a0 :: some (.int x) :: r) st := by
  obtain ⟨D, A, Q, l, p, e, R, s, m, args, below, meth, c⟩ := G
  obtain ⟨hx, hb, hr, hml, hown, hts, hN, hlk, hin, hA, hR, hK, hO⟩ := C
  intro H locs ls hP hD hS hl
  refine lv_iload_n hx hb d rfl (hl.2.2 1 _ rfl) ?_
  exact k H locs ls hP hD hS hl
theorem b_icmp_ge {G : zH} {cc : ByteArray} {own : String} {nL fr ce sl lc : Nat} {cl : Nat → ClassId} (C : zB G cc own nL fr ce sl lc cl) {ws : va_W} {cn sn pc : Nat} {lo : List (Option Value)} {st : List Value} {a b : Int} (ha : -2147483648 ≤ a ∧ a < 2147483648) (hb0 : -2147483648 ≤ b ∧ b < 2147483648) {off : Int} {tgt : Nat} (d : decode cc pc = .ok (.if_icmp .ge off, 3)) (ht : (pc : Int) + off = (tgt : Int)) (kt : b ≤ a → VB G ws cn sn tgt lo st) (kf : ¬ (b ≤ a) → VB G ws cn sn (pc + 3) lo st) : VB G ws cn sn pc lo (.int (iI b) :: .int (iI a) :: st) := by
  obtain ⟨D, A, Q, l, p, e, R, s, m, args, below, meth, c⟩ := G
  obtain ⟨hx, hb, hr, hml, hown, hts, hN, hlk, hin, hA, hR, hK, hO⟩ := C
  intro H locs ls hP hD hS hl
  exact lv_icmp_ge hx hb d ht (fun q => kt ((iI_le hb0 ha).mp q) H locs ls hP hD hS hl) (fun q => kf (fun z => q ((iI_le hb0 ha).mpr z)) H locs ls hP hD hS hl)
theorem b_get {G : zH} {cc : ByteArray} {own : String} {nL fr ce sl lc : Nat} {cl : Nat → ClassId} (C : zB G cc own nL fr ce sl lc cl) {ws : va_W} {cn sn pc : Nat} {lo : List (Option Value)} {st : List Value} {Cn ref : String} {T : u_T} {Nf ci idx a q0 : Nat} {fs : List Value} (he : ws[q0]? = some (a, .inr (ci, fs))) (hci : zcl[ci]? = some (Cn, T, Nf)) (hlay : ∀ w ∈ u_ws Cn T Nf, w ∈ tb) (j : Nat) (hj : j < Nf) (hlink : Cond.fieldLink own idx ref (T j).2.1 (T j).2.2.1 ∈ tb) (hrf : (T j).1 = ref) {v : Value} (hv : fs[j]? = some v) (d : decode cc pc = .ok (.getfield idx, 3)) (k : VB G ws cn sn (pc + 3) lo (v :: st)) : VB G ws cn sn pc lo (.ref a :: st) := by
  obtain ⟨D, A, Q, l, p, e, R, s, m, args, below, meth, c⟩ := G
  obtain ⟨hx, hb, hr, hml, hown, hts, hN, hlk, hin, hA, hR, hK, hO⟩ := C
  intro H locs ls hP hD hS hl
  exact va_get (D := D) (ci := ci) (C := Cn) (T := T) (N := Nf) hx hb hts hlay hown hK hP q0 he hci j hj (hts _ hlink) (fun _ h => by rw [← hrf]; exact h) hv d (k H locs ls hP hD hS hl)
theorem b_iast {G : zH} {cc : ByteArray} {own : String} {nL fr ce sl lc : Nat} {cl : Nat → ClassId} (C : zB G cc own nL fr ce sl lc cl) {ws : va_W} {cn sn pc : Nat} {lo : List (Option Value)} {st : List Value} {q0 a n : Nat} {f : Nat → Int32} {j z : Int} (he : ws[q0]? = some (a, .inl (cl 0, n, .inl f))) (h0 : 0 ≤ j) (h1 : j < n) (hn : n < 2147483648) (d : decode cc pc = .ok (.iastore, 1)) (k : VB G (ws.set q0 (a, .inl (cl 0, n, .inl (upd f j.toNat (iI z))))) cn sn (pc + 1) lo st) : VB G ws cn sn pc lo (.int (iI z) :: .int (iI j) :: .ref a :: st) := by
  obtain ⟨D, A, Q, l, p, e, R, s, m, args, below, meth, c⟩ := G
  obtain ⟨hx, hb, hr, hml, hown, hts, hN, hlk, hin, hA, hR, hK, hO⟩ := C
  intro H locs ls hP hD hS hl
  obtain ⟨i1, i2⟩ := iI_in h0 h1 hn
  refine va_iast hx hb hK hP hD hS q0 0 he rfl i1 d (fun H1 locs1 hP1 hD1 hS1 => ?_)
  rw [i2] at hP1 hD1
  exact k H1 locs1 ls hP1 hD1 hS1 hl
theorem b_ist1 {G : zH} {cc : ByteArray} {own : String} {nL fr ce sl lc : Nat} {cl : Nat → ClassId} (C : zB G cc own nL fr ce sl lc cl) {ws : va_W} {cn sn : Nat} {r : List (Option Value)} {st : List Value} {pc : Nat} {a0 q0 : Option Value} {x : Int32} (h1 : zc1 a0 = true) (d : decode cc pc = .ok (.istore_n 1, 1)) (k : VB G ws cn sn (pc + 1) (a0 :: some (.int x) :: r) st) : VB G ws cn sn pc (a0 :: q0 :: r) (.int x :: st) := by
  obtain ⟨D, A, Q, l, p, e, R, s, m, args, below, meth, c⟩ := G
  obtain ⟨hx, hb, hr, hml, hown, hts, hN, hlk, hin, hA, hR, hK, hO⟩ := C
  intro H locs ls hP hD hS hl
  obtain ⟨ls', e', h'⟩ := lh_store1 (v := .int x) (i := 1) hl (by simp) rfl (lh_c1 (lo := (a0 :: q0 :: r)) (i := 1) (Or.inr ⟨0, _, rfl, rfl, h1⟩))
  intro T hT X
  obtain ⟨t, a, b⟩ := k H locs ls' hP hD hS h' T hT X
  refine ⟨t, ?_, b⟩
  jvm_step X.here [X.here.top, hx, hb, d, e', Value.isRef]
  exact a
theorem b_iinc1 {G : zH} {cc : ByteArray} {own : String} {nL fr ce sl lc : Nat} {cl : Nat → ClassId} (C : zB G cc own nL fr ce sl lc cl) {ws : va_W} {cn sn : Nat} {r : List (Option Value)} {st : List Value} {pc : Nat} {a0 : Option Value} {z n : Int} (h1 : zc1 a0 = true) (d : decode cc pc = .ok (.iinc 1 n, 3)) (k : VB G ws cn sn (pc + 3) (a0 :: some (.int (iI (z + n))) :: r) st) : VB G ws cn sn pc (a0 :: some (.int (iI z)) :: r) st := by
  obtain ⟨D, A, Q, l, p, e, R, s, m, args, below, meth, c⟩ := G
  obtain ⟨hx, hb, hr, hml, hown, hts, hN, hlk, hin, hA, hR, hK, hO⟩ := C
  intro H locs ls hP hD hS hl
  obtain ⟨ls', e', h'⟩ := lh_store1 (v := .int (iI (z + n))) (i := 1) hl (by simp) rfl (lh_c1 (lo := (a0 :: some (.int (iI z)) :: r)) (i := 1) (Or.inr ⟨0, _, rfl, rfl, h1⟩))
  have hg : ls[1]? = some (.val (.int (iI z))) := hl.2.2 1 _ rfl
  have e2 : iI z + Int32.ofInt n = iI (z + n) := iI_add z n
  intro T hT X
  obtain ⟨t, a, b⟩ := k H locs ls' hP hD hS h' T hT X
  refine ⟨t, ?_, b⟩
  rw [← e2] at e'
  jvm_step X.here [X.here.top, hx, hb, d, hg, e']
  exact a
theorem b_imul {G : zH} {cc : ByteArray} {own : String} {nL fr ce sl lc : Nat} {cl : Nat → ClassId} (C : zB G cc own nL fr ce sl lc cl) {ws : va_W} {cn sn : Nat} {lo : List (Option Value)} {st : List Value} {pc : Nat} {a b : Int} (d : decode cc pc = .ok (.imul, 1)) (k : VB G ws cn sn (pc + 1) lo (.int (iI (a * b)) :: st)) : VB G ws cn sn pc lo (.int (iI b) :: .int (iI a) :: st) := by
  obtain ⟨D, A, Q, l, p, e, R, s, m, args, below, meth, c⟩ := G
  obtain ⟨hx, hb, hr, hml, hown, hts, hN, hlk, hin, hA, hR, hK, hO⟩ := C
  intro H locs ls hP hD hS hl
  refine lv_imul hx hb d ?_
  rw [iI_mul]
  exact k H locs ls hP hD hS hl
theorem b_iadd {G : zH} {cc : ByteArray} {own : String} {nL fr ce sl lc : Nat} {cl : Nat → ClassId} (C : zB G cc own nL fr ce sl lc cl) {ws : va_W} {cn sn : Nat} {lo : List (Option Value)} {st : List Value} {pc : Nat} {a b : Int} (d : decode cc pc = .ok (.iadd, 1)) (k : VB G ws cn sn (pc + 1) lo (.int (iI (a + b)) :: st)) : VB G ws cn sn pc lo (.int (iI b) :: .int (iI a) :: st) := by
  obtain ⟨D, A, Q, l, p, e, R, s, m, args, below, meth, c⟩ := G
  obtain ⟨hx, hb, hr, hml, hown, hts, hN, hlk, hin, hA, hR, hK, hO⟩ := C
  intro H locs ls hP hD hS hl
  refine lv_iadd hx hb d ?_
  rw [iI_add]
  exact k H locs ls hP hD hS hl
theorem b_ild2 {G : zH} {cc : ByteArray} {own : String} {nL fr ce sl lc : Nat} {cl : Nat → ClassId} (C : zB G cc own nL fr ce sl lc cl) {ws : va_W} {cn sn : Nat} {r : List (Option Value)} {st : List Value} {pc : Nat} {a0 a1 : Option Value} {x : Int32} (d : decode cc pc = .ok (.iload_n 2, 1)) (k : VB G ws cn sn (pc + 1) (a0 :: a1 :: some (.int x) :: r) (.int x :: st)) : VB G ws cn sn pc (a0 :: a1 :: some (.int x) :: r) st := by
  obtain ⟨D, A, Q, l, p, e, R, s, m, args, below, meth, c⟩ := G
  obtain ⟨hx, hb, hr, hml, hown, hts, hN, hlk, hin, hA, hR, hK, hO⟩ := C
  intro H locs ls hP hD hS hl
  refine lv_iload_n hx hb d rfl (hl.2.2 2 _ rfl) ?_
  exact k H locs ls hP hD hS hl
theorem b_ist2 {G : zH} {cc : ByteArray} {own : String} {nL fr ce sl lc : Nat} {cl : Nat → ClassId} (C : zB G cc own nL fr ce sl lc cl) {ws : va_W} {cn sn : Nat} {r : List (Option Value)} {st : List Value} {pc : Nat} {a0 a1 q0 : Option Value} {x : Int32} (h1 : zc1 a1 = true) (d : decode cc pc = .ok (.istore_n 2, 1)) (k : VB G ws cn sn (pc + 1) (a0 :: a1 :: some (.int x) :: r) st) : VB G ws cn sn pc (a0 :: a1 :: q0 :: r) (.int x :: st) := by
  obtain ⟨D, A, Q, l, p, e, R, s, m, args, below, meth, c⟩ := G
  obtain ⟨hx, hb, hr, hml, hown, hts, hN, hlk, hin, hA, hR, hK, hO⟩ := C
  intro H locs ls hP hD hS hl
  obtain ⟨ls', e', h'⟩ := lh_store1 (v := .int x) (i := 2) hl (by simp) rfl (lh_c1 (lo := (a0 :: a1 :: q0 :: r)) (i := 2) (Or.inr ⟨1, _, rfl, rfl, h1⟩))
  intro T hT X
  obtain ⟨t, a, b⟩ := k H locs ls' hP hD hS h' T hT X
  refine ⟨t, ?_, b⟩
  jvm_step X.here [X.here.top, hx, hb, d, e', Value.isRef]
  exact a
theorem b_iinc2 {G : zH} {cc : ByteArray} {own : String} {nL fr ce sl lc : Nat} {cl : Nat → ClassId} (C : zB G cc own nL fr ce sl lc cl) {ws : va_W} {cn sn : Nat} {r : List (Option Value)} {st : List Value} {pc : Nat} {a0 a1 : Option Value} {z n : Int} (h1 : zc1 a1 = true) (d : decode cc pc = .ok (.iinc 2 n, 3)) (k : VB G ws cn sn (pc + 3) (a0 :: a1 :: some (.int (iI (z + n))) :: r) st) : VB G ws cn sn pc (a0 :: a1 :: some (.int (iI z)) :: r) st := by
  obtain ⟨D, A, Q, l, p, e, R, s, m, args, below, meth, c⟩ := G
  obtain ⟨hx, hb, hr, hml, hown, hts, hN, hlk, hin, hA, hR, hK, hO⟩ := C
  intro H locs ls hP hD hS hl
  obtain ⟨ls', e', h'⟩ := lh_store1 (v := .int (iI (z + n))) (i := 2) hl (by simp) rfl (lh_c1 (lo := (a0 :: a1 :: some (.int (iI z)) :: r)) (i := 2) (Or.inr ⟨1, _, rfl, rfl, h1⟩))
  have hg : ls[2]? = some (.val (.int (iI z))) := hl.2.2 2 _ rfl
  have e2 : iI z + Int32.ofInt n = iI (z + n) := iI_add z n
  intro T hT X
  obtain ⟨t, a, b⟩ := k H locs ls' hP hD hS h' T hT X
  refine ⟨t, ?_, b⟩
  rw [← e2] at e'
  jvm_step X.here [X.here.top, hx, hb, d, hg, e']
  exact a
theorem b_new {G : zH} {cc : ByteArray} {own : String} {nL fr ce sl lc : Nat} {cl : Nat → ClassId} (C : zB G cc own nL fr ce sl lc cl) {ws : va_W} {cn sn pc : Nat} {lo : List (Option Value)} {st : List Value} {Cn : String} {T : u_T} {Nf ci idx : Nat} {fs : List Value} (hlay : ∀ w ∈ u_ws Cn T Nf, w ∈ tb) (ty0 : Nat → FieldType) (hty : ∀ k, k < Nf → parseFieldDescriptor (T k).2.2.1 = some (ty0 k)) (hcl : Cond.classLink own idx Cn ∈ tb) (hinst : Cond.instantiable Cn Nf ∈ tb) (hini : Cond.initialized Cn ∈ tb) (hci : zcl[ci]? = some (Cn, T, Nf)) (hfs : ∀ j, j < Nf → defaultValue (ty0 j) = vp_V fs j) (hc : cn + 1 ≤ ce) (hs : sn + Nf ≤ sl) (d : decode cc pc = .ok (.new idx, 3)) (k : ∀ q : Nat, VB G (ws ++ [(q, .inr (ci, fs))]) (cn + 1) (sn + Nf) (pc + 3) lo (.ref q :: st)) : VB G ws cn sn pc lo st := by
  obtain ⟨D, A, Q, l, p, e, R, s, m, args, below, meth, c⟩ := G
  obtain ⟨hx, hb, hr, hml, hown, hts, hN, hlk, hin, hA, hR, hK, hO⟩ := C
  intro H locs ls hP hD hS hl
  subst hR
  exact va_new (ci := ci) (fs := fs) (C := Cn) (T := T) (N := Nf) hx hb hts hlay ty0 hty hown (hts _ hcl) (hts _ hinst) (hts _ hini) hK hP hD hS hA hci hfs hc hs d (fun q H1 hP hD hS => k q H1 locs ls hP hD hS hl)
/-- a constructor's contract: of the fresh object alone, a world that P says of -/
def zIq (D : va_G) (w0 : Nat × va_E) (sz : Nat) (P : va_W → Prop) : Array Value → State → Outcome → State → Prop := va_Qv P (fun ws t => va_P D zcl ws t.heap ∧ va_D (va_A [w0] sz) ws) (va_A [w0] sz)
def zIp (D : va_G) (cl : Nat → ClassId) (w0 : Nat × va_E) (sz : Nat) : State → Prop := fun U => U.heap.size = sz ∧ va_P D zcl [w0] U.heap ∧ va_D (fun _ => True) [w0] ∧ va_K D zcl (zT cl) U ∧ zN U ∧ zO U
def zKi (l : Launch) (D : va_G) (cl : Nat → ClassId) (y : MethodName) (bytes : ByteArray) (maxL fr ce sl lc h0 : Nat) (e0 : va_E) (sz : Nat) (P : va_W → Prop) : Prop :=
  Met l y (Cond.code y bytes maxL none :: tb) { frames := fr, cells := ce, slots := sl, locals := lc } (va_Pc [.ref h0] (zIp D cl (h0, e0) sz)) (zIq D (h0, e0) sz P) ce sl (va_A [(h0, e0)] sz)
def zGq (G : zH) (D : va_G) (h0 sz : Nat) (e0 : va_E) (ce sl : Nat) (P : va_W → Prop) (l : Launch) : Prop := G.1 = D ∧ G.2.1 = va_A [(h0, e0)] sz ∧ (∃ (bl : List Frame) (ar : Array Value) (s : State), G.2.2.1 = MQ bl (zIq D (h0, e0) sz P) ar s ce sl (va_A [(h0, e0)] sz) ∧ bl = G.2.2.2.2.2.2.2.2.2.2.1 ∧ ar = G.2.2.2.2.2.2.2.2.2.1 ∧ s = G.2.2.2.2.2.2.2.1) ∧ G.2.2.2.1 = l
theorem zKi.of {l : Launch} {D : va_G} {cl : Nat → ClassId} {y : MethodName} {bytes : ByteArray} {maxL fr ce sl lc h0 sz : Nat} {e0 : va_E} {P : va_W → Prop} (own : String) (ho : y.cls = own) (hnm : y.name = "<init>") (hy : plainName y.cls = true) (hlen : 1 ≤ maxL)
    (body : ∀ G : zH, zGq G D h0 sz e0 ce sl P l → zB G bytes own maxL fr ce sl lc cl → VB G [(h0, e0)] 0 0 0 (some (.ref h0) :: List.replicate (maxL - 1) none) []) : zKi l D cl y bytes maxL fr ce sl lc h0 e0 sz P := by
  refine Met.ofW (cc := bytes) (maxL := maxL) (ret := none) hy rfl ?_
  intro p e s m args below meth c s₁ B hml hv
  obtain ⟨rfl, hsz, hP, hD, hK, hN, hO⟩ := hv
  have hts := atoms_spec (ws := Cond.code y bytes maxL none :: tb) B.pre
  have hown : s.vm.findClass own = some m.cls := ho ▸ findClass_of_methodNamed B.named
  have hin : meth.name = "<init>" := (name_of_methodNamed B.named B.method).1.trans hnm
  subst hsz
  have hb := body (D, va_A [(h0, e0)] s.heap.size, MQ below (zIq D (h0, e0) s.heap.size P) [Value.ref h0].toArray s ce sl (va_A [(h0, e0)] s.heap.size), l, p, e, (headSpec (Cond.code y bytes maxL none :: tb) { frames := fr, cells := ce, slots := sl, locals := lc }).room, s, m, [Value.ref h0].toArray, below, meth, c) ⟨rfl, rfl, ⟨_, _, _, rfl, rfl, rfl, rfl⟩, rfl⟩ ⟨B.exec, B.bytes, B.returns, hml, hown, fun w hw => hts w (List.mem_cons_of_mem _ hw), hN, B.notSynchronized, hin, fun q h => Or.inr h, rfl, hK, hO⟩
  rw [lg_entry_eq]
  exact hb s.heap [] _ hP hD.self va_S.rf (lh_entry (vs := [Value.ref h0]) (show (zlo [Value.ref h0]).length ≤ maxL from hlen))
theorem b_ret {G : zH} {cc : ByteArray} {own : String} {nL fr ce sl lc : Nat} {cl : Nat → ClassId} (C : zB G cc own nL fr ce sl lc cl) {ws : va_W} {pc cn sn h0 sz : Nat} {e0 : va_E} {D : va_G} {lo : List (Option Value)} {P : va_W → Prop} {l0 : Launch} (hq : zGq G D h0 sz e0 ce sl P l0) (hcn : cn ≤ ce) (hsn : sn ≤ sl) (h : P ws) (d : decode cc pc = .ok (.return_, 1)) : VB G ws cn sn pc lo [] := by
  obtain ⟨D', A, Q, l, p, e, R, s, m, args, below, meth, c⟩ := G
  obtain ⟨hx, hb, hr, hml, hown, hts, hN, hlk, hin, hA, hR, hK, hO⟩ := C
  obtain ⟨h1, h2, ⟨bl, ar, s', hQ, e1, e2, e3⟩, -⟩ := hq
  intro H locs ls hP hD hS hl
  have h1 : D' = D := h1
  have h2 : A = va_A [(h0, e0)] sz := h2
  have e1 : bl = below := e1
  have e2 : ar = args := e2
  have e3 : s' = s := e3
  have hQ : Q = MQ bl (zIq D (h0, e0) sz P) ar s' ce sl (va_A [(h0, e0)] sz) := hQ
  subst h1 h2 e1 e2 e3 hQ
  refine W.widen (k := ce) (n := sl) hcn hsn ?_
  exact W.vret hx hb hr (fun t ht hW => ⟨⟨ws, rfl, h, by rw [ht]; exact hP, hD⟩, hS.F ht⟩) hS.2.2 d
theorem va_nd_app1 {n : Nat} : ∀ (l : List Nat), va_nd l = true → (∀ a ∈ l, a ≠ n) → va_nd (l ++ [n]) = true
  | [], _, _ => by simp [va_nd]
  | a :: l, h, hl => by
    simp only [va_nd, Bool.and_eq_true, decide_eq_true_eq, List.cons_append, List.mem_append, List.mem_singleton, not_or] at h ⊢
    exact ⟨⟨h.1, hl a List.mem_cons_self⟩, va_nd_app1 l h.2 (fun b hb => hl b (List.mem_cons_of_mem _ hb))⟩
theorem va_nd_range : ∀ n : Nat, va_nd (List.range n) = true
  | 0 => rfl
  | n + 1 => by
    rw [List.range_succ]
    exact va_nd_app1 _ (va_nd_range n) (fun a ha => by have := List.mem_range.mp ha; omega)
theorem range_get {α : Type} (X : List α) (Y : List α) : (List.range X.length).map (fun i => (X ++ Y)[i]?) = X.map some := by
  apply List.ext_getElem?
  intro i
  by_cases h : i < X.length
  · rw [List.getElem?_map, List.getElem?_range h, List.getElem?_map, List.getElem?_eq_getElem h]
    show some ((X ++ Y)[i]?) = some (some X[i])
    rw [List.getElem?_append_left h, List.getElem?_eq_getElem h]
  · rw [List.getElem?_eq_none (by simpa using h), List.getElem?_eq_none (by simpa using h)]
theorem last_get {α : Type} (X : List α) (a : α) : (X ++ [a])[X.length]? = some a := by simp
theorem last_set {α : Type} (X : List α) (a b : α) : (X ++ [a]).set X.length b = X ++ [b] := by simp
theorem GoodIn_code {y : MethodName} {bytes : ByteArray} {maxL : Nat} {ret : Option FieldType} (hcode : Cond.code y bytes maxL ret ∈ tb) : GoodIn tb (Cond.code y bytes maxL ret :: tb) := fun w hw => by
  rcases List.mem_cons.mp hw with rfl | hw
  · exact ⟨hcode, (tb_good _ hcode).2⟩
  · exact tb_good w hw
theorem zKi.blind {D : va_G} {cl : Nat → ClassId} {w0 : Nat × va_E} {sz : Nat} {h0 : Nat} : ∀ (a : Array Value) (U : State) g mk, va_Pc [.ref h0] (zIp D cl w0 sz) a U → va_Pc [.ref h0] (zIp D cl w0 sz) a (U.calling g mk a) := by
  rintro a U g mk ⟨q0, q1, qP, qD, qK, qN, qO⟩
  exact ⟨q0, q1, qP, qD, va_K.moved (u := U) (U := U.calling g mk a) (Vm.Alike.refl U.vm) qK, qN.same rfl, qO.moved (Vm.Alike.refl U.vm)⟩
theorem b_init {G : zH} {cc : ByteArray} {own : String} {nL fr ce sl lc : Nat} {cl : Nat → ClassId} (C : zB G cc own nL fr ce sl lc cl) {X : va_W} {cn sn pc : Nat} {lo : List (Option Value)} {st : List Value} {idx maxL fr2 ce2 sl2 lc2 q : Nat} {e0 : va_E} {y : MethodName} {bytes : ByteArray} {P : va_W → Prop} (hc : ∀ sz, zKi G.2.2.2.1 G.1 cl y bytes maxL fr2 ce2 sl2 lc2 q e0 sz P) (hcode : Cond.code y bytes maxL none ∈ tb) (hlink : Cond.methodLink own idx y ∈ tb) (hinst : Cond.instanceMethod y ∈ tb) (hini : Cond.initialized y.cls ∈ tb) (hd : y.cls ≠ "java/lang/invoke/MethodHandle" ∧ y.cls ≠ "java/lang/invoke/VarHandle" ∧ (parseMethodDescriptor y.desc).map (fun d => d.parameters.length) = some 0) (hnm : y.name = "<init>") (hroom : fr2 + 1 ≤ fr ∧ 8 + (maxL + 11) + lc2 ≤ lc) (hcn : cn + ce2 ≤ ce ∧ sn + sl2 ≤ sl) (hcat : (st.map fun v => v.category).sum ≤ 8) (hlo : lo.length = nL) (d : decode cc pc = .ok (.invokespecial idx, 3)) (k : ∀ W1 : va_W, P W1 → VB G (X ++ W1) (cn + ce2) (sn + sl2) (pc + 3) lo st) : VB G (X ++ [(q, e0)]) cn sn pc lo (.ref q :: st) := by
  obtain ⟨D, A, Q, l, p, e, R, s, m, args, below, meth, c⟩ := G
  obtain ⟨hx, hb, hr, hml, hown, hts, hN, hlk, hin, hA, hR, hK, hO⟩ := C
  intro H locs ls hP hD hS hl
  subst hR
  have hPc := hP.sub (ws' := [(q, e0)]) [X.length] (by simp)
  have hDc := hD.sub (ws' := [(q, e0)]) [X.length] rfl (by simp)
  have hFc := va_free (wc := [(q, e0)]) hD hS hA [X.length] (by simp)
  refine va_callv (A1 := va_A [(q, e0)] H.size) (va_runI (cc := cc) (nL := nL) (b := q) (As := []) (rest := st) ⟨hx, hb, hml, hown, hts⟩ (hc H.size) (cwI 0 hts (GoodIn_code hcode) rfl rfl rfl (hts _ hini) (hts _ hlink) (hts _ hinst) hnm hd hroom) ⟨zKi.blind, fun U hU hW => ⟨rfl, by rw [hU], by rw [hU]; exact hPc, hDc.weaken (fun _ _ _ _ => trivial), va_K.moved hW.alike hK, hN.warm hW, hO.moved hW.alike⟩⟩ rfl rfl (hl.1.trans hlo) rfl (lv_room hcat) d hcn) hS (fun q _ h => hFc q h) hFc (fun W1 t H1 locs ht hvm hw hB hz1 hk1 hS => ?_)
  obtain ⟨hP1, hD1⟩ := hB
  rw [ht] at hP1
  obtain ⟨hP, hD⟩ := va_join (wr := X) (w1 := W1) hP hD [X.length] (List.range X.length) (by simp) (range_get X _) (va_nd_range _) (fun i hi hj => by
    have h1 := List.mem_range.mp hi
    have h2 := List.mem_singleton.mp hj
    omega) hk1 hFc hP1 hD1
  exact k W1 hw H1 locs ls hP hD hS hl
theorem b_initN {G : zH} {cc : ByteArray} {own : String} {nL fr ce sl lc : Nat} {cl : Nat → ClassId} (C : zB G cc own nL fr ce sl lc cl) {X : va_W} {cn sn pc : Nat} {lo : List (Option Value)} {st : List Value} {idx maxL fr2 ce2 sl2 lc2 q : Nat} {e0 : va_E} {y : MethodName} {bytes : ByteArray} {P : va_W → Prop} (hc : ∀ sz, zKi G.2.2.2.1 G.1 cl y bytes maxL fr2 ce2 sl2 lc2 q e0 sz P) (hcode : Cond.code y bytes maxL none ∈ tb) (hlink : ∀ U, zN U → va_Nw (.methodLinkNest own idx y "OldBeams") U) (hinst : Cond.instanceMethod y ∈ tb) (hini : Cond.initialized y.cls ∈ tb) (hd : y.cls ≠ "java/lang/invoke/MethodHandle" ∧ y.cls ≠ "java/lang/invoke/VarHandle" ∧ (parseMethodDescriptor y.desc).map (fun d => d.parameters.length) = some 0) (hnm : y.name = "<init>") (hroom : fr2 + 1 ≤ fr ∧ 8 + (maxL + 11) + lc2 ≤ lc) (hcn : cn + ce2 ≤ ce ∧ sn + sl2 ≤ sl) (hcat : (st.map fun v => v.category).sum ≤ 8) (hlo : lo.length = nL) (d : decode cc pc = .ok (.invokespecial idx, 3)) (k : ∀ W1 : va_W, P W1 → VB G (X ++ W1) (cn + ce2) (sn + sl2) (pc + 3) lo st) : VB G (X ++ [(q, e0)]) cn sn pc lo (.ref q :: st) := by
  obtain ⟨D, A, Q, l, p, e, R, s, m, args, below, meth, c⟩ := G
  obtain ⟨hx, hb, hr, hml, hown, hts, hN, hlk, hin, hA, hR, hK, hO⟩ := C
  intro H locs ls hP hD hS hl
  subst hR
  have hPc := hP.sub (ws' := [(q, e0)]) [X.length] (by simp)
  have hDc := hD.sub (ws' := [(q, e0)]) [X.length] rfl (by simp)
  have hFc := va_free (wc := [(q, e0)]) hD hS hA [X.length] (by simp)
  refine va_callv (A1 := va_A [(q, e0)] H.size) (va_runIN (host := "OldBeams") (cc := cc) (nL := nL) (b := q) (As := []) (rest := st) ⟨hx, hb, hml, hown, hts⟩ (hc H.size) (⟨va_cnB 0 hts (GoodIn_code hcode) rfl rfl rfl (hlink s hN) (hts _ hini) hd hroom, hnm, hts _ hinst⟩) ⟨zKi.blind, fun U hU hW => ⟨rfl, by rw [hU], by rw [hU]; exact hPc, hDc.weaken (fun _ _ _ _ => trivial), va_K.moved hW.alike hK, hN.warm hW, hO.moved hW.alike⟩⟩ rfl rfl (hl.1.trans hlo) rfl (lv_room hcat) d hcn) hS (fun q _ h => hFc q h) hFc (fun W1 t H1 locs ht hvm hw hB hz1 hk1 hS => ?_)
  obtain ⟨hP1, hD1⟩ := hB
  rw [ht] at hP1
  obtain ⟨hP, hD⟩ := va_join (wr := X) (w1 := W1) hP hD [X.length] (List.range X.length) (by simp) (range_get X _) (va_nd_range _) (fun i hi hj => by
    have h1 := List.mem_range.mp hi
    have h2 := List.mem_singleton.mp hj
    omega) hk1 hFc hP1 hD1
  exact k W1 hw H1 locs ls hP hD hS hl
theorem b_anew {G : zH} {cc : ByteArray} {own : String} {nL fr ce sl lc : Nat} {cl : Nat → ClassId} (C : zB G cc own nL fr ce sl lc cl) {ws : va_W} {cn sn pc : Nat} {lo : List (Option Value)} {st : List Value} {idx N : Nat} {n : Int} (hN : n = (N : Int)) (h31 : N < 67108864) (hc : cn + 1 ≤ ce) (hs : sn + N ≤ sl) (hcl : Cond.classLink own idx "OldBeams$Beam" ∈ tb) (d : decode cc pc = .ok (.anewarray idx, 3)) (k : ∀ q : Nat, VB G (ws ++ [(q, .inl (cl 3, N, .inr (.inr (.inr (.inr (fun _ => none))))))]) (cn + 1) (sn + N) (pc + 3) lo (.ref q :: st)) : VB G ws cn sn pc lo (.int (iI n) :: st) := by
  obtain ⟨D, A, Q, l, p, e, R, s, m, args, below, meth, c⟩ := G
  obtain ⟨hx, hb, hr, hml, hown, hts, hN0, hlk, hin, hA, hR, hK, hO⟩ := C
  intro H locs ls hP hD hS hl
  subst hR
  subst hN
  refine va_newq hx hb hown (hts _ hcl) hO.1 hK hP hD hS hA (N' := N) ?_ ?_ ?_ hc hs d (fun q cA H1 hK' hP hD hS => ?_)
  · exact nn_iI (by omega)
  · exact tn_iI (by omega)
  · omega
  · have e : cA = cl 3 := zuq (ty := .object "OldBeams$Beam") (hK'.2 5 _ rfl).2 (hK.2 3 _ rfl).2
    subst e
    exact k q H1 locs ls hP hD hS hl
theorem b_aldA {G : zH} {cc : ByteArray} {own : String} {nL fr ce sl lc : Nat} {cl : Nat → ClassId} (C : zB G cc own nL fr ce sl lc cl) {ws : va_W} {cn sn pc : Nat} {lo : List (Option Value)} {st : List Value} {q0 a n : Nat} {f : Nat → Option Nat} {j : Int} {v : Value} (he : ws[q0]? = some (a, .inl (cl 4, n, .inr (.inr (.inr (.inr f)))))) (h0 : 0 ≤ j) (h1 : j < n) (hn : n < 2147483648) (hv : va_rf (f j.toNat) = v) (d : decode cc pc = .ok (.aaload, 1)) (k : VB G ws cn sn (pc + 1) lo (v :: st)) : VB G ws cn sn pc lo (.int (iI j) :: .ref a :: st) := by
  obtain ⟨D, A, Q, l, p, e, R, s, m, args, below, meth, c⟩ := G
  obtain ⟨hx, hb, hr, hml, hown, hts, hN0, hlk, hin, hA, hR, hK, hO⟩ := C
  intro H locs ls hP hD hS hl
  obtain ⟨i1, i2⟩ := iI_in h0 h1 hn
  have hlt : (iI j).toNatClampNeg < n := Nat.not_le.mp fun q => i1 (Or.inr q)
  refine W.aald (v := v) (ty := .array .int) hx hb (hP q0 _ he) ((hK.2 4 _ rfl).1 n (fun j => va_rf (f j))) rfl (fun q => by cases q) (by show ¬ (iI j < 0 ∨ (arrV _ _ _).slots.size ≤ _); rw [arrV_size]; exact i1) (by show (arrV _ _ _).slots[_]? = _; rw [arrV_read _ _ hlt, i2, hv]) rfl rfl d (k H locs ls hP hD hS hl)
theorem b_astB {G : zH} {cc : ByteArray} {own : String} {nL fr ce sl lc : Nat} {cl : Nat → ClassId} (C : zB G cc own nL fr ce sl lc cl) {ws : va_W} {cn sn pc : Nat} {lo : List (Option Value)} {st : List Value} {q0 qk a n v : Nat} {vs : List Value} {f : Nat → Option Nat} {j : Int} (he : ws[q0]? = some (a, .inl (cl 3, n, .inr (.inr (.inr (.inr f)))))) (hv : ws[qk]? = some (v, .inr (4, vs))) (h0 : 0 ≤ j) (h1 : j < n) (hn : n < 2147483648) (d : decode cc pc = .ok (.aastore, 1)) (k : VB G (ws.set q0 (a, .inl (cl 3, n, .inr (.inr (.inr (.inr (va_up f j.toNat (some v)))))))) cn sn (pc + 1) lo st) : VB G ws cn sn pc lo (.ref v :: .int (iI j) :: .ref a :: st) := by
  obtain ⟨D, A, Q, l, p, e, R, s, m, args, below, meth, c⟩ := G
  obtain ⟨hx, hb, hr, hml, hown, hts, hN0, hlk, hin, hA, hR, hK, hO⟩ := C
  intro H locs ls hP hD hS hl
  obtain ⟨i1, i2⟩ := iI_in h0 h1 hn
  refine va_astq hx hb hK hP hD hS q0 3 qk 4 he rfl hv (r := (RX_B, TX_B, 13)) rfl i1 d (fun H1 locs1 hP1 hD1 hS1 => ?_)
  rw [i2] at hP1 hD1
  exact k H1 locs1 ls hP1 hD1 hS1 hl
theorem arrV_same {c : ClassId} {n : Nat} {f g : Nat → Value} (h : ∀ i, i < n → f i = g i) : arrV c n f = arrV c n g := by
  unfold arrV
  congr 1
  apply Array.ext
  · simp
  · intro i h1 h2
    simp at h1 h2 ⊢
    exact h i (by omega)
theorem b_ref {G : zH} {ws : va_W} {cn sn pc : Nat} {lo : List (Option Value)} {st : List Value} {q0 a n : Nat} {cA : ClassId} {f g : Nat → Option Nat} (he : ws[q0]? = some (a, .inl (cA, n, .inr (.inr (.inr (.inr f)))))) (h : ∀ i, i < n → f i = g i) (k : VB G (ws.set q0 (a, .inl (cA, n, .inr (.inr (.inr (.inr g)))))) cn sn pc lo st) : VB G ws cn sn pc lo st := by
  obtain ⟨D, A, Q, l, p, e, R, s, m, args, below, meth, c⟩ := G
  intro H locs ls hP hD hS hl
  refine k H locs ls (hP.set hD he ?_ (fun _ _ => rfl)) (hD.set he) hS hl
  have h1 : H[a]? = some (vp_cell cA (n, .inr (.inr (.inr (.inr f))))) := hP q0 _ he
  show H[a]? = some (vp_cell cA (n, .inr (.inr (.inr (.inr g)))))
  rw [h1, vp_cell_q, vp_cell_q, arrV_same (fun i hi => by rw [h i hi])]
theorem out_eq (c : ClassId) (N h0 : Nat) : ∀ i : Nat, Jvm.Free.Multi.outerC c N h0 i = arrV c N (fun j => va_rf (if j < i then some (h0 + 1 + j) else none))
  | 0 => by
    show ({ cls := c, slots := Array.replicate N .null, vm := .none } : Cell) = _
    rw [arrV_new]
    refine congrArg (arrV c N) (funext fun j => ?_)
    simp [va_rf]
  | i + 1 => by
    show (Jvm.Free.Multi.outerC c N h0 i).setSlot i (.ref (h0 + 1 + i)) = _
    rw [out_eq c N h0 i, arrV_store]
    refine congrArg (arrV c N) (funext fun j => ?_)
    by_cases e : j = i
    · subst e
      simp [updV, va_rf]
    · by_cases h : j < i
      · simp [updV, e, h, Nat.lt_succ_of_lt h]
      · simp [updV, e, h, show ¬ j < i + 1 by omega]
theorem b_mna {G : zH} {cc : ByteArray} {own : String} {nL fr ce sl lc : Nat} {cl : Nat → ClassId} (C : zB G cc own nL fr ce sl lc cl) {ws : va_W} {cn sn pc : Nat} {lo : List (Option Value)} {st : List Value} {idx N K : Nat} {n k0 : Int} (hn : n = (N : Int)) (hk : k0 = (K : Int)) (hN1 : N < 67108864) (hK1 : K < 67108864) (hc : cn + (1 + N) ≤ ce) (hs : sn + (N + N * K) ≤ sl) (hcl : Cond.classLink own idx "[[I" ∈ tb) (harr : Cond.arrayClass .int ∈ tb) (d : decode cc pc = .ok (.multianewarray idx 2, 4)) (k : ∀ (q : Nat) (r : Nat → Nat), VB G ((ws ++ [(q, .inl (cl 4, N, .inr (.inr (.inr (.inr (fun i => some (r i)))))))]) ++ (List.range N).map (fun i => (r i, .inl (cl 0, K, .inl (fun _ => 0))))) (cn + 1 + N) (sn + N + N * K) (pc + 4) lo (.ref q :: st)) : VB G ws cn sn pc lo (.int (iI k0) :: .int (iI n) :: st) := by
  obtain ⟨D, A, Q, l, p, e, R, s, m, args, below, meth, c⟩ := G
  obtain ⟨hx, hb, hr, hml, hown, hts, hN0, hlk, hin, hA, hR, hK, hO⟩ := C
  intro H locs ls hP hD hS hl
  subst hR
  subst hn
  subst hk
  intro T hT Xs
  have tn : (iI (N : Int)).toNatClampNeg = N := tn_iI (by omega)
  have tk : (iI (K : Int)).toNatClampNeg = K := tn_iI (by omega)
  obtain ⟨vm₁, cA, comp, -, fA, fC, hO2, -, X', step⟩ := Xs.multianewarray2F (own := own) (index := idx) (ty := .int) hx hown (hts _ hcl) hO.2 (hts _ harr) (g := F0 m pc ls (.int (iI (K : Int)) :: .int (iI (N : Int)) :: st)) rfl (by rw [hb]; exact d) rfl (nn_iI (by omega)) (nn_iI (by omega)) (by rw [tn]; omega) (by rw [tk]; show K * 4 ≤ _; omega) (by rw [tk]; omega) rfl rfl (by rw [tn]; exact hc) (by rw [tn, tk]; exact hs)
  have e4 : cA = cl 4 := Option.some.inj (fA.symm.trans (hK.2 4 _ rfl).2)
  have e0 : comp = cl 0 := Option.some.inj (fC.symm.trans (hK.2 0 _ rfl).2)
  subst e4 e0
  rw [tn, tk] at X' step
  generalize hF : Jvm.Free.Multi.fill (T.setVm vm₁) (cl 4) (cl 0) N K (defaultValue .int) N = F at X' step
  have hTh : (T.setVm vm₁).heap = H := hT
  obtain ⟨f1, f2, -, -⟩ := Jvm.Free.Multi.fill_facts (T.setVm vm₁) (cl 4) (cl 0) N K (defaultValue .int) N
  rw [hF, hTh] at f1 f2
  have hold : ∀ x : Nat, x < H.size → F.heap[x]? = H[x]? := fun x hx => by
    have := Jvm.Free.Multi.fill_old (T.setVm vm₁) (cl 4) (cl 0) N K (defaultValue .int) (a := x) (by rw [hTh]; exact hx) N
    rw [hF, hTh] at this
    exact this
  have hrow : ∀ j : Nat, j < N → F.heap[H.size + 1 + j]? = some (vp_cell (cl 0) (K, .inl (fun _ => 0))) := fun j hj => by
    have := Jvm.Free.Multi.fill_inner (T.setVm vm₁) (cl 4) (cl 0) N K (defaultValue .int) N j hj
    rw [hF, hTh] at this
    rw [this, vp_cell_i, ← arrV_new]
    rfl
  rw [out_eq] at f2
  have hP0 : va_P D zcl ws F.heap := hP.kept (fun k9 x hx => hold x.1 ((hP k9 x hx).lt))
  have hP1 : va_P D zcl (ws ++ [(H.size, .inl (cl 4, N, .inr (.inr (.inr (.inr (fun i => some (H.size + 1 + i)))))))]) F.heap := hP0.app (fun k9 x hx => by
    have h0 : k9 < 1 := (List.getElem?_eq_some_iff.mp hx).1
    rw [show k9 = 0 by omega] at hx
    cases hx
    show F.heap[H.size]? = some (vp_cell (cl 4) _)
    rw [f2, vp_cell_q]
    exact congrArg some (arrV_same (fun i hi => by rw [if_pos hi])))
  have hD1 := hD.push (e := .inl (cl 4, N, .inr (.inr (.inr (.inr (fun i => some (H.size + 1 + i))))))) hP rfl (hA _ hS.1)
  have hP2 : va_P D zcl ((ws ++ [(H.size, .inl (cl 4, N, .inr (.inr (.inr (.inr (fun i => some (H.size + 1 + i)))))))]) ++ (List.range N).map (fun i => (H.size + 1 + i, .inl (cl 0, K, .inl (fun _ => 0))))) F.heap := hP1.app (fun k9 x hx => by
    obtain ⟨i, hi, rfl⟩ := List.mem_map.mp (List.mem_of_getElem? hx)
    exact hrow i (List.mem_range.mp hi))
  have hr : ∀ (k9 : Nat) (x : Nat × va_E), ((List.range N).map (fun i => ((H.size + 1 + i, .inl (cl 0, K, .inl (fun _ => 0))) : Nat × va_E)))[k9]? = some x → x.1 = H.size + 1 + k9 := fun k9 x hx => by
    rw [List.getElem?_map] at hx
    by_cases h9 : k9 < N
    · rw [List.getElem?_range h9] at hx
      cases hx
      rfl
    · rw [List.getElem?_eq_none (by rw [List.length_range]; omega)] at hx
      cases hx
  have hD2 : va_D A ((ws ++ [(H.size, .inl (cl 4, N, .inr (.inr (.inr (.inr (fun i => some (H.size + 1 + i)))))))]) ++ (List.range N).map (fun i => (H.size + 1 + i, .inl (cl 0, K, .inl (fun _ => 0))))) := by
    refine va_D.app hD1 ⟨fun i j x y hi hj hxy => ?_, fun k9 x hx => ?_⟩ (fun i j x y hi hj hxy => ?_)
    · have := hr _ _ hi
      have := hr _ _ hj
      omega
    · have := hr _ _ hx
      exact hA _ (by have := hS.1; omega)
    · have h2 := hr _ _ hj
      have h1 : x.1 ≤ H.size := by
        by_cases hl : i < ws.length
        · rw [List.getElem?_append_left hl] at hi
          exact Nat.le_of_lt ((hP i x hi).lt)
        · rw [List.getElem?_append_right (by omega)] at hi
          have h0 : i - ws.length < 1 := (List.getElem?_eq_some_iff.mp hi).1
          rw [show i - ws.length = 0 by omega] at hi
          cases hi
          exact Nat.le_refl _
      omega
  obtain ⟨t, a1, b1⟩ := k H.size (fun i => H.size + 1 + i) F.heap locs ls hP2 hD2 ⟨by rw [f1]; have := hS.1; omega, fun x h1 h2 => (hold x (Nat.lt_of_lt_of_le h1 hS.1)).trans (hS.2.1 x h1 h2), hS.2.2⟩ hl F rfl X'
  refine ⟨t, step t ?_, b1⟩
  have e : T.heap.size = H.size := by rw [hT]
  rw [e]
  exact a1
