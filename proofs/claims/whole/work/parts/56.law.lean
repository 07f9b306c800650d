def R_law : String := "OldBeamsLaw"
def lw_P (b : Addr) (xs : List Int32) (args : Array Value) (s : State) : Prop := args = #[.ref b] ∧ s.IntsAt b xs ∧ xs.length ≤ 3072 ∧ (Jvm.Cond.and given_1 narrow_1).before args s = true
def lw_Q (_ : Array Value) (s : State) (o : Outcome) (t : State) : Prop := o = .returned (some (.int 1)) ∧ Framed s o t [] 600000 7302250
def lw_Z (below : List Frame) (a : Array Value) (s : State) : State → Prop := fun t => ∃ o, t.status = .running ∧ Ended t below o ∧ lw_Q a s o t
/-- the law's own end, with 1 on the stack, nothing written that was there before, its room as the claim has it -/
theorem lw_ret {p : Program} {l : Launch} {e : Env} {s : State} {m : MethodId} {below : List Frame} {meth : Method} {c : Code} {b : Nat} (hx : p.tables.exec = Jvm.exec) (hb : c.code = code) (hr : meth.sig.returnType = ret) (hlocks : meth.locks = false) {pc : Nat} {H : Heap} {ls : Array Slot} (hdg : decode code pc = .ok (.ireturn, 1)) : W p l e room_1 s m #[Value.ref b] below meth c H [] 600000 7302250 (lw_Z below #[Value.ref b] s) (F0 m pc ls [.int 1]) := by
  intro T hT X
  obtain ⟨fs, hret, hrun, hended, hW, hframe⟩ := X.leave (v := some (.int 1)) (hlocks := hlocks) (fun h => by rw [hr] at h; cases h)
  have hmeth' : T.vm.method? m = some meth := X.method'
  refine ⟨T.setFrames fs, ?_, .returned (some (.int 1)), hrun, hended, rfl, ⟨_, rfl⟩, hW, hframe⟩
  jvm_step X.here [X.here.top, hx, hb, hdg, hmeth', hr, ret, narrow_b1]
  (try refine ⟨rfl, ?_⟩); (try refine ⟨rfl, ?_⟩)
  first | (intro acts; rw [hret _ acts rfl rfl rfl]) | rw [hret _ _ rfl rfl rfl]
  exact Steps.refl _
/-- what holds at the law's entry: the machine, the code, the tables' words (any of lw_tbl by 'hts w (by decide +kernel)'), the script of L ints xs at the cell b, what the Statement gives of the start (any of its parts by flat_of_before) -/
def lw_At (p : Program) (s : State) (m : MethodId) (meth : Method) (c : Code) (b L : Nat) (xs : Nat → Int32) : Prop :=
  p.tables.exec = Jvm.exec ∧ c.code = code ∧ meth.sig.returnType = ret ∧ c.maxLocals = 4 ∧ s.vm.findClass R_law = some m.cls ∧ (∀ w ∈ lw_tbl, w.before #[Value.ref b] s = true) ∧ va_X b L xs s s.heap ∧ b < s.heap.size ∧ meth.locks = false ∧ (Jvm.Cond.and given_1 narrow_1).before #[Value.ref b] s = true
/-! the law over both sides -/
abbrev zLG : Type := zE × zE × Launch × Program × Env × State × MethodId × List Frame × Method × Code × Nat × Nat × (Nat → Int32)
def zAl (s : State) : Nat → Prop := fun q => s.heap.size ≤ q
def VL (G : zLG) (M1 M2 : zM) (pc : Nat) (lo : List (Option Value)) (st : List Value) : Prop := match G with
  | (E1, E2, l, p, e, s, m, below, meth, c, b, L, xs) => ∀ (H : Heap) (locs : List Loc) (ls : Array Slot), va_P E1.1 zcl (zw sX E1 M1 ++ zw sM E2 M2) H → va_D (zAl s) (zw sX E1 M1 ++ zw sM E2 M2) → va_S (zAl s) s.heap H locs → lh ls lo → W p l e room_1 s m #[Value.ref b] below meth c H locs 165 4098 (lw_Z below #[Value.ref b] s) (F0 m pc ls st)
def zLC (G : zLG) : Prop := match G with
  | (E1, E2, l, p, e, s, m, below, meth, c, b, L, xs) => p.tables.exec = Jvm.exec ∧ c.code = code ∧ meth.sig.returnType = ret ∧ c.maxLocals = 4 ∧ s.vm.findClass R_law = some m.cls ∧ (∀ w ∈ tb, w.before #[Value.ref b] s = true) ∧ va_X b L xs s s.heap ∧ b < s.heap.size ∧ meth.locks = false ∧ va_K E1.1 zcl (zt E1) s ∧ zN s ∧ L ≤ 3072 ∧ E2.1 = E1.1 ∧ E2.2.1 = E1.2.1
def LOC (G : zLG) (i : Nat) : List (Option Value) := [some (.ref G.2.2.2.2.2.2.2.2.2.2.1), some (.ref (G.1.2.2 0)), some (.ref (G.2.1.2.2 0)), some (.int (iI (i : Int)))]
def zx (G : zLG) (i : Nat) : Int := (G.2.2.2.2.2.2.2.2.2.2.2.2 i).toInt
theorem zx_r (G : zLG) (i : Nat) : -2147483648 ≤ zx G i ∧ zx G i < 2147483648 := ⟨Int32.le_toInt _, Int32.toInt_lt _⟩
theorem iI_x (x : Int32) : iI x.toInt = x := Int32.ofInt_toInt x
theorem off_get {α : Type} (X Y : List α) : ((List.range Y.length).map (fun i => X.length + i)).map (fun i => (X ++ Y)[i]?) = Y.map some := by
  apply List.ext_getElem?
  intro i
  by_cases h : i < Y.length
  · rw [List.getElem?_map, List.getElem?_map, List.getElem?_range h, List.getElem?_map, List.getElem?_eq_getElem h]
    show some ((X ++ Y)[X.length + i]?) = some (some Y[i])
    rw [List.getElem?_append_right (by omega), Nat.add_sub_cancel_left, List.getElem?_eq_getElem h]
  · rw [List.getElem?_eq_none (by simpa using h), List.getElem?_eq_none (by simpa using h)]
theorem va_nd_off (n : Nat) : ∀ l : List Nat, va_nd l = true → va_nd (l.map (fun i => n + i)) = true
  | [], _ => rfl
  | a :: l, h => by
    simp only [va_nd, Bool.and_eq_true, decide_eq_true_eq, List.map_cons] at h ⊢
    refine ⟨fun q => ?_, va_nd_off n l h.2⟩
    obtain ⟨c, hc, e⟩ := List.mem_map.mp q
    exact h.1 (by rw [show a = c by omega]; exact hc)
theorem zD_self {sd : zSd} {E : zE} {M : zM} {A : Nat → Prop} (h : va_D A (zw sd E M)) : va_D (zA sd E) (zw sd E M) := ⟨h.1, fun k q hk => by
  have hl : k < sd.1 := by
    have := (List.getElem?_eq_some_iff.mp hk).1
    rwa [zw_len] at this
  rw [zw_at hl] at hk
  cases hk
  exact ⟨k, hl, rfl⟩⟩
theorem zA_in {sd : zSd} {E : zE} {M : zM} {n q : Nat} (h : zA sd E q) : va_A (zw sd E M) n q := by
  obtain ⟨k, hk, rfl⟩ := h
  exact Or.inl ⟨k, _, zw_at hk⟩
theorem l_run {p : Program} {l : Launch} {e : Env} {R : Room} {s : State} {m : MethodId} {args : Array Value} {below : List Frame} {meth : Method} {c : Code} {Q : State → Prop} {A : Nat → Prop} {X : va_W} {sd : zSd} {E : zE} {M : zM} {H : Heap} {locs : List Loc} {cells slots : Nat} {P0 : Option Value → zM → Prop} {y : MethodName} {bytes cc : ByteArray} {maxL fr2 lc2 n k ci Nf idx pc nL : Nat} {ret2 : Option FieldType} {As st : List Value} {Cn own : String} {T : u_T} {ls : Array Slot} {lo : List (Option Value)}
    (hx : p.tables.exec = Jvm.exec) (hb : c.code = cc) (hml : c.maxLocals = nL) (hown : s.vm.findClass own = some m.cls) (hts : ∀ w ∈ tb, w.before args s = true) (hK : va_K E.1 zcl (zt E) s) (hN : zN s) (hA : ∀ q, s.heap.size ≤ q → A q)
    (hc : zK l sd E y bytes maxL ret2 fr2 lc2 (.ref (E.2.2 k) :: As) M P0) (hk : k < sd.1) (hs : sd.2.1 k = (5 + ci, 0)) (hci : zcl[ci]? = some (Cn, T, Nf)) (hn : As.length = n)
    (hcode : Cond.code y bytes maxL ret2 ∈ tb) (hlink : Cond.methodLink own idx y ∈ tb) (hinst : Cond.instanceMethod y ∈ tb) (hsel : Cond.selects Cn y y ∈ tb) (hini : Cond.initialized Cn ∈ tb) (hd : y.cls = Cn ∧ y.cls ≠ "java/lang/invoke/MethodHandle" ∧ y.cls ≠ "java/lang/invoke/VarHandle" ∧ (parseMethodDescriptor y.desc).map (fun d => d.parameters.length) = some n) (hroom : fr2 + 1 ≤ R.frames ∧ 8 + (maxL + 11) + lc2 ≤ R.locals) (hf : cells ≤ R.cells ∧ slots ≤ R.slots) (hcat : (st.map fun v => v.category).sum ≤ 8) (hlo : lo.length = nL)
    (d : decode cc pc = .ok (.invokevirtual idx, 3)) (hP : va_P E.1 zcl (X ++ zw sd E M) H) (hD : va_D A (X ++ zw sd E M)) (hS : va_S A s.heap H locs) (hl : lh ls lo)
    (kk : ∀ (v : Option Value) (M' : zM) (H1 : Heap) (locs1 : List Loc), P0 v M' → va_P E.1 zcl (X ++ zw sd E M') H1 → va_D A (X ++ zw sd E M') → va_S A s.heap H1 locs1 → W p l e R s m args below meth c H1 locs1 cells slots Q (F0 m (pc + 3) ls (v.toList ++ st))) : W p l e R s m args below meth c H locs cells slots Q (F0 m pc ls (As.reverse ++ .ref (E.2.2 k) :: st)) := by
  have hPc : va_P E.1 zcl (zw sd E M) H := fun j q hj => hP (X.length + j) q (by
    rw [List.getElem?_append_right (by omega), Nat.add_sub_cancel_left]
    exact hj)
  have hDc := hD.sub (ws' := zw sd E M) ((List.range (zw sd E M).length).map (fun i => X.length + i)) (va_nd_off _ _ (va_nd_range _)) (off_get X _)
  have hFc := va_free (wc := zw sd E M) hD hS hA ((List.range (zw sd E M).length).map (fun i => X.length + i)) (off_get X _)
  have he : (zw sd E M)[k]? = some (E.2.2 k, .inr (ci, fsO E (M.1 k) (M.2 k) (sd.2.2.1 k))) := by rw [zw_at hk, zce_o hs]
  have hG2 : GoodIn tb (wsV own idx Cn y (Cond.code y bytes maxL ret2 :: tb)) := fun w hw => by
    unfold wsV at hw
    rcases List.mem_append.mp hw with hw | hw
    · simp only [List.mem_cons, List.not_mem_nil, or_false] at hw
      rcases hw with rfl | rfl | rfl | rfl
      · exact tb_good _ hlink
      · exact tb_good _ hinst
      · exact tb_good _ hsel
      · exact tb_good _ hini
    · exact GoodIn_code hcode w hw
  have run : va_Run p l e R s m args below meth c H locs cells slots 0 0 (F0 m pc ls (As.reverse ++ .ref (E.2.2 k) :: st)) st (zQ sd E P0 (Value.ref (E.2.2 k) :: As).toArray) (zA sd E) := va_runV (cc := cc) (nL := nL) (As := As) (rest := st) ⟨hx, hb, hml, hown, hts⟩ hc (cwV n hts hG2 rfl rfl rfl hd hroom) ⟨zK.blind, va_recv hK hPc hci he, fun U hU hW => ⟨rfl, by rw [hU]; exact hPc, zD_self hDc, va_K.moved hW.alike hK, hN.warm hW⟩⟩ rfl hn (hl.1.trans hlo) rfl (lv_room hcat) d hf
  intro T0 hT Xs
  obtain ⟨v, st₀, t, T', L, h0, X', hL, e1, e2, ⟨⟨v2, M', hv, hp, hP1, hD1, hK1, hN1⟩, hz, hkk⟩, stp⟩ := run T0 hT Xs
  cases hv
  rw [h0] at hz hkk
  have hA0 : ∀ q, zA sd E q → A q := fun q h => hFc q (zA_in h)
  have hS1 : va_S A s.heap T'.heap (locs ++ L) := ⟨Nat.le_trans hS.1 (by rw [e1]; exact hz), fun q h1 h2 => by rw [e1, hkk q (Nat.lt_of_lt_of_le h1 hS.1) (fun z => h2 (hA0 q z))]; exact hS.2.1 q h1 h2, fun q hq => by
      rcases List.mem_append.mp hq with h | h
      · exact hS.2.2 q h
      · exact hA0 _ (hL q h)⟩
  obtain ⟨hP2, hD2⟩ := va_join (H1 := T'.heap) (wr := X) (w1 := zw sd E M') hP hD ((List.range (zw sd E M).length).map (fun i => X.length + i)) (List.range X.length) (off_get X _) (range_get X _) (va_nd_range _) (fun i hi hj => by
    have h1 := List.mem_range.mp hi
    obtain ⟨j, -, e⟩ := List.mem_map.mp hj
    omega) (fun q h1 h2 => by rw [e1]; exact hkk q h1 (fun z => h2 (zA_in z))) hFc (by rw [e1]; exact hP1) (hD1.weaken (fun k q _ h => zA_in h))
  obtain ⟨t2, a1, b1⟩ := kk v M' T'.heap (locs ++ L) hp hP2 hD2 hS1 T' rfl X'
  exact ⟨t2, stp t2 a1, b1⟩
theorem l_iconst {G : zLG} (C : zLC G) {M1 M2 : zM} {pc : Nat} {lo : List (Option Value)} {st : List Value} {n : Int} (d : decode code pc = .ok (.iconst n, 1)) (k : VL G M1 M2 (pc + 1) lo (.int (iI n) :: st)) : VL G M1 M2 pc lo st := by
  obtain ⟨E1, E2, l, p, e, s, m, below, meth, c, b, L, xs⟩ := G
  obtain ⟨hx, hb, hr, hml, hown, hts, hX, hbl, hlk, hK, hN, hL, hE, hE2⟩ := C
  intro H locs ls hP hD hS hl
  refine lv_iconst hx hb d rfl ?_
  exact k H locs ls hP hD hS hl
theorem l_goto {G : zLG} (C : zLC G) {M1 M2 : zM} {pc : Nat} {lo : List (Option Value)} {st : List Value} {off : Int} {tgt : Nat} (d : decode code pc = .ok (.goto off, 3)) (ht : (pc : Int) + off = (tgt : Int)) (k : VL G M1 M2 tgt lo st) : VL G M1 M2 pc lo st := by
  obtain ⟨E1, E2, l, p, e, s, m, below, meth, c, b, L, xs⟩ := G
  obtain ⟨hx, hb, hr, hml, hown, hts, hX, hbl, hlk, hK, hN, hL, hE, hE2⟩ := C
  intro H locs ls hP hD hS hl
  exact lv_goto hx hb d ht (k H locs ls hP hD hS hl)
theorem l_ald1 {G : zLG} (C : zLC G) {M1 M2 : zM} {pc : Nat} {st : List Value} {i : Nat} (d : decode code pc = .ok (.aload_n 1, 1)) (k : VL G M1 M2 (pc + 1) (LOC G i) (.ref (G.1.2.2 0) :: st)) : VL G M1 M2 pc (LOC G i) st := by
  obtain ⟨E1, E2, l, p, e, s, m, below, meth, c, b, L, xs⟩ := G
  obtain ⟨hx, hb, hr, hml, hown, hts, hX, hbl, hlk, hK, hN, hL, hE, hE2⟩ := C
  intro H locs ls hP hD hS hl
  refine lv_aload_n hx hb d rfl (hl.2.2 1 _ rfl) ?_
  exact k H locs ls hP hD hS hl
theorem l_ald2 {G : zLG} (C : zLC G) {M1 M2 : zM} {pc : Nat} {st : List Value} {i : Nat} (d : decode code pc = .ok (.aload_n 2, 1)) (k : VL G M1 M2 (pc + 1) (LOC G i) (.ref (G.2.1.2.2 0) :: st)) : VL G M1 M2 pc (LOC G i) st := by
  obtain ⟨E1, E2, l, p, e, s, m, below, meth, c, b, L, xs⟩ := G
  obtain ⟨hx, hb, hr, hml, hown, hts, hX, hbl, hlk, hK, hN, hL, hE, hE2⟩ := C
  intro H locs ls hP hD hS hl
  refine lv_aload_n hx hb d rfl (hl.2.2 2 _ rfl) ?_
  exact k H locs ls hP hD hS hl
theorem l_arg {G : zLG} (C : zLC G) {M1 M2 : zM} {pc : Nat} {st : List Value} {i j : Nat} {n : Int} (hn : n = (j : Int)) (hj : j < 6) (hi : i + 6 ≤ G.2.2.2.2.2.2.2.2.2.2.2.1) (d0 : decode code pc = .ok (.aload_n 0, 1)) (d1 : decode code (pc + 1) = .ok (.iload_n 3, 1)) (d2 : decode code (pc + 2) = .ok (.iconst n, 1)) (d3 : decode code (pc + 3) = .ok (.iadd, 1)) (d4 : decode code (pc + 4) = .ok (.iaload, 1)) (k : VL G M1 M2 (pc + 5) (LOC G i) (.int (iI (zx G (i + j))) :: st)) : VL G M1 M2 pc (LOC G i) st := by
  obtain ⟨E1, E2, l, p, e, s, m, below, meth, c, b, L, xs⟩ := G
  obtain ⟨hx, hb, hr, hml, hown, hts, hX, hbl, hlk, hK, hN, hL, hE, hE2⟩ := C
  intro H locs ls hP hD hS hl
  have hi : i + 6 ≤ L := hi
  refine lv_aload_n hx hb d0 rfl (hl.2.2 0 _ rfl) ?_
  refine lv_iload_n hx hb d1 rfl (hl.2.2 3 _ rfl) ?_
  refine lv_iconst hx hb d2 rfl ?_
  refine lv_iadd hx hb d3 ?_
  show W p l e room_1 s m #[Value.ref b] below meth c H locs 165 4098 _ (F0 m (pc + 4) ls (.int (iI (i : Int) + iI n) :: .ref b :: st))
  rw [iI_add, hn]
  obtain ⟨i1, i2⟩ := iI_in (n := L) (a := (i : Int) + (j : Int)) (by omega) (by omega) (by omega)
  refine va_sld hx hb hX hbl (show ¬ zAl s b from by show ¬ s.heap.size ≤ b; omega) hS i1 d4 ?_
  rw [i2, show ((i : Int) + (j : Int)).toNat = i + j by omega]
  have h := k H locs ls hP hD hS hl
  rw [show zx (E1, E2, l, p, e, s, m, below, meth, c, b, L, xs) (i + j) = (xs (i + j)).toInt from rfl, iI_x] at h
  exact h
theorem l_bool {G : zLG} (C : zLC G) {M1 M2 : zM} {pc : Nat} {lo : List (Option Value)} {st : List Value} {a off1 off2 : Int} (ha : -2147483648 ≤ a ∧ a < 2147483648) (d0 : decode code pc = .ok (.ifCond .eq off1, 3)) (h1 : off1 = 7) (d1 : decode code (pc + 3) = .ok (.iconst 1, 1)) (d2 : decode code (pc + 4) = .ok (.goto off2, 3)) (h2 : off2 = 4) (d3 : decode code (pc + 7) = .ok (.iconst 0, 1)) (k : VL G M1 M2 (pc + 8) lo (.int (iI (if a = 0 then 0 else 1)) :: st)) : VL G M1 M2 pc lo (.int (iI a) :: st) := by
  subst h1 h2
  obtain ⟨E1, E2, l, p, e, s, m, below, meth, c, b, L, xs⟩ := G
  obtain ⟨hx, hb, hr, hml, hown, hts, hX, hbl, hlk, hK, hN, hL, hE, hE2⟩ := C
  intro H locs ls hP hD hS hl
  refine lv_if_eq (tgt := pc + 7) hx hb d0 (by omega) (fun q => ?_) (fun q => ?_)
  · have q := (iI_eq (b := 0) ha (by decide)).mp q
    refine lv_iconst hx hb d3 rfl ?_
    have h := k H locs ls hP hD hS hl
    rw [if_pos q] at h
    exact h
  · have q : ¬ a = 0 := fun z => q ((iI_eq (b := 0) ha (by decide)).mpr z)
    refine lv_iconst hx hb d1 rfl ?_
    refine lv_goto (tgt := pc + 8) hx hb d2 (by omega) ?_
    have h := k H locs ls hP hD hS hl
    rw [if_neg q] at h
    exact h
theorem zb01 (a : Int) : (if a = 0 then (0 : Int) else 1) = 0 ∨ (if a = 0 then (0 : Int) else 1) = 1 := by
  by_cases h : a = 0
  · rw [if_pos h]; exact Or.inl rfl
  · rw [if_neg h]; exact Or.inr rfl
theorem l_eqI {G : zLG} (C : zLC G) {M1 M2 : zM} {pc : Nat} {lo : List (Option Value)} {st : List Value} {a b : Int} (hab : a = b) {off : Int} {tgt : Nat} (d : decode code pc = .ok (.if_icmp .eq off, 3)) (ht : (pc : Int) + off = (tgt : Int)) (k : VL G M1 M2 tgt lo st) : VL G M1 M2 pc lo (.int (iI b) :: .int (iI a) :: st) := by
  subst hab
  obtain ⟨E1, E2, l, p, e, s, m, below, meth, c, b, L, xs⟩ := G
  obtain ⟨hx, hb, hr, hml, hown, hts, hX, hbl, hlk, hK, hN, hL, hE, hE2⟩ := C
  intro H locs ls hP hD hS hl
  exact lv_icmp_eq hx hb d ht (fun q => k H locs ls hP hD hS hl) (fun q => absurd rfl q)
theorem l_eqJ {G : zLG} (C : zLC G) {M1 M2 : zM} {pc : Nat} {lo : List (Option Value)} {st : List Value} {x y : Int64} (hxy : x = y) {off : Int} {tgt : Nat} (d1 : decode code pc = .ok (.lcmp, 1)) (d : decode code (pc + 1) = .ok (.ifCond .eq off, 3)) (ht : ((pc + 1 : Nat) : Int) + off = (tgt : Int)) (k : VL G M1 M2 tgt lo st) : VL G M1 M2 pc lo (.long y :: .long x :: st) := by
  subst hxy
  obtain ⟨E1, E2, l, p, e, s, m, below, meth, c, b, L, xs⟩ := G
  obtain ⟨hx, hb, hr, hml, hown, hts, hX, hbl, hlk, hK, hN, hL, hE, hE2⟩ := C
  intro H locs ls hP hD hS hl
  refine W.lcmp hx hb d1 ?_
  exact lv_if_eq hx hb d ht (fun q => k H locs ls hP hD hS hl) (fun q => absurd ((lg_cmp_eq x x).mpr rfl) q)
theorem l_callM {G : zLG} (C : zLC G) {M1 M2 : zM} {pc : Nat} {lo : List (Option Value)} {st : List Value} {idx maxL fr2 lc2 n : Nat} {y : MethodName} {bytes : ByteArray} {ret2 : Option FieldType} {P0 : Option Value → zM → Prop} {As : List Value} (hn : As.length = n) (hlo : lo.length = 4) (hlink : Cond.methodLink "OldBeamsLaw" idx y ∈ tb) (hcode : Cond.code y bytes maxL ret2 ∈ tb) (hinst : Cond.instanceMethod y ∈ tb) (hroom : fr2 + 1 ≤ 9 ∧ 8 + (maxL + 11) + lc2 ≤ 356) (hcat : (st.map fun v => v.category).sum ≤ 8) (d : decode code pc = .ok (.invokevirtual idx, 3)) (hsel : Cond.selects RX_M y y ∈ tb) (hini : Cond.initialized RX_M ∈ tb) (hd : y.cls = RX_M ∧ y.cls ≠ "java/lang/invoke/MethodHandle" ∧ y.cls ≠ "java/lang/invoke/VarHandle" ∧ (parseMethodDescriptor y.desc).map (fun d => d.parameters.length) = some n) (hc : zK G.2.2.1 sM G.2.1 y bytes maxL ret2 fr2 lc2 (.ref (G.2.1.2.2 0) :: As) M2 P0) (kk : ∀ (v : Option Value) (M' : zM), P0 v M' → VL G M1 M' (pc + 3) lo (v.toList ++ st)) : VL G M1 M2 pc lo (As.reverse ++ .ref (G.2.1.2.2 0) :: st) := by
  obtain ⟨E1, E2, l, p, e, s, m, below, meth, c, b, L, xs⟩ := G
  obtain ⟨hx, hb, hr, hml, hown, hts, hX, hbl, hlk, hK, hN, hL, hE, hE2⟩ := C
  intro H locs ls hP hD hS hl
  have hz : zt E2 = zt E1 := by unfold zt; rw [hE2]
  dsimp only at hc kk ⊢
  exact l_run (E := E2) (X := zw sX E1 M1) (A := zAl s) (k := 0) (ci := 5) (Cn := RX_M) (T := TX_M) (R := room_1) hx hb hml hown hts (by rw [hz, hE]; exact hK) hN (fun q h => h) hc (by decide) rfl rfl hn hcode hlink hinst hsel hini hd hroom ⟨by decide, by decide⟩ hcat hlo d (by rw [hE]; exact hP) hD hS hl (fun v M' H1 locs1 hp hP1 hD1 hS1 => kk v M' hp H1 locs1 ls (by rw [hE] at hP1; exact hP1) hD1 hS1 hl)
theorem l_callX {G : zLG} (C : zLC G) {M1 M2 : zM} {pc : Nat} {lo : List (Option Value)} {st : List Value} {idx maxL fr2 lc2 n : Nat} {y : MethodName} {bytes : ByteArray} {ret2 : Option FieldType} {P0 : Option Value → zM → Prop} {As : List Value} (hn : As.length = n) (hlo : lo.length = 4) (hlink : Cond.methodLink "OldBeamsLaw" idx y ∈ tb) (hcode : Cond.code y bytes maxL ret2 ∈ tb) (hinst : Cond.instanceMethod y ∈ tb) (hroom : fr2 + 1 ≤ 9 ∧ 8 + (maxL + 11) + lc2 ≤ 356) (hcat : (st.map fun v => v.category).sum ≤ 8) (d : decode code pc = .ok (.invokevirtual idx, 3)) (hsel : Cond.selects RX_O y y ∈ tb) (hini : Cond.initialized RX_O ∈ tb) (hd : y.cls = RX_O ∧ y.cls ≠ "java/lang/invoke/MethodHandle" ∧ y.cls ≠ "java/lang/invoke/VarHandle" ∧ (parseMethodDescriptor y.desc).map (fun d => d.parameters.length) = some n) (hc : zK G.2.2.1 sX G.1 y bytes maxL ret2 fr2 lc2 (.ref (G.1.2.2 0) :: As) M1 P0) (kk : ∀ (v : Option Value) (M' : zM), P0 v M' → VL G M' M2 (pc + 3) lo (v.toList ++ st)) : VL G M1 M2 pc lo (As.reverse ++ .ref (G.1.2.2 0) :: st) := by
  obtain ⟨E1, E2, l, p, e, s, m, below, meth, c, b, L, xs⟩ := G
  obtain ⟨hx, hb, hr, hml, hown, hts, hX, hbl, hlk, hK, hN, hL, hE, hE2⟩ := C
  intro H locs ls hP hD hS hl
  dsimp only at hc kk ⊢
  exact l_run (E := E1) (X := zw sM E2 M2) (A := zAl s) (k := 0) (ci := 0) (Cn := RX_O) (T := TX_O) (R := room_1) hx hb hml hown hts hK hN (fun q h => h) hc (by decide) rfl rfl hn hcode hlink hinst hsel hini hd hroom ⟨by decide, by decide⟩ hcat hlo d (va_P.swap (a := []) hP) (va_D.swap (a := []) hD) hS hl (fun v M' H1 locs1 hp hP1 hD1 hS1 => kk v M' hp H1 locs1 ls (va_P.swap (a := []) hP1) (va_D.swap (a := []) hD1) hS1 hl)
