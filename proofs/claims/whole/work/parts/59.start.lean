theorem w_init {p : Program} {l : Launch} {e : Env} {R : Room} {s : State} {m : MethodId} {args : Array Value} {below : List Frame} {meth : Method} {c : Code} {H : Heap} {locs : List Loc} {cells slots : Nat} {Q : State → Prop} {cc : ByteArray} {pc : Nat} {ls : Array Slot} {st : List Value} {D : va_G} {A : Nat → Prop} {X : va_W} {own : String} {nL idx maxL fr2 ce2 sl2 lc2 q : Nat} {cl : Nat → ClassId} {e0 : va_E} {y : MethodName} {bytes : ByteArray} {P : va_W → Prop} {lo : List (Option Value)} (hx : p.tables.exec = Jvm.exec) (hb : c.code = cc) (hml : c.maxLocals = nL) (hown : s.vm.findClass own = some m.cls) (hts : ∀ w ∈ tb, w.before args s = true) (hN : zN s) (hA : ∀ q, s.heap.size ≤ q → A q) (hK : va_K D zcl (zT cl) s) (hO : zO s) (hc : ∀ sz, zKi l D cl y bytes maxL fr2 ce2 sl2 lc2 q e0 sz P) (hcode : Cond.code y bytes maxL none ∈ tb) (hlink : Cond.methodLink own idx y ∈ tb) (hinst : Cond.instanceMethod y ∈ tb) (hini : Cond.initialized y.cls ∈ tb) (hd : y.cls ≠ "java/lang/invoke/MethodHandle" ∧ y.cls ≠ "java/lang/invoke/VarHandle" ∧ (parseMethodDescriptor y.desc).map (fun d => d.parameters.length) = some 0) (hnm : y.name = "<init>") (hroom : fr2 + 1 ≤ R.frames ∧ 8 + (maxL + 11) + lc2 ≤ R.locals) (hcn : cells + ce2 ≤ R.cells ∧ slots + sl2 ≤ R.slots) (hcat : (st.map fun v => v.category).sum ≤ 8) (hlo : lo.length = nL) (d : decode cc pc = .ok (.invokespecial idx, 3)) (hP : va_P D zcl (X ++ [(q, e0)]) H) (hD : va_D A (X ++ [(q, e0)])) (hS : va_S A s.heap H locs) (hl : lh ls lo)
    (k : ∀ (W1 : va_W) (H1 : Heap) (locs1 : List Loc), P W1 → va_P D zcl (X ++ W1) H1 → va_D A (X ++ W1) → va_S A s.heap H1 locs1 → W p l e R s m args below meth c H1 locs1 (cells + ce2) (slots + sl2) Q (F0 m (pc + 3) ls st)) : W p l e R s m args below meth c H locs cells slots Q (F0 m pc ls (.ref q :: st)) := by
  have hPc := hP.sub (ws' := [(q, e0)]) [X.length] (by simp)
  have hDc := hD.sub (ws' := [(q, e0)]) [X.length] rfl (by simp)
  have hFc := va_free (wc := [(q, e0)]) hD hS hA [X.length] (by simp)
  refine va_callv (A1 := va_A [(q, e0)] H.size) (va_runI (cc := cc) (nL := nL) (b := q) (As := []) (rest := st) ⟨hx, hb, hml, hown, hts⟩ (hc H.size) (cwI 0 hts (GoodIn_code hcode) rfl rfl rfl (hts _ hini) (hts _ hlink) (hts _ hinst) hnm hd hroom) ⟨zKi.blind, fun U hU hW => ⟨rfl, by rw [hU], by rw [hU]; exact hPc, hDc.weaken (fun _ _ _ _ => trivial), va_K.moved hW.alike hK, hN.warm hW, hO.moved hW.alike⟩⟩ rfl rfl (hl.1.trans hlo) rfl (lv_room hcat) d hcn) hS (fun q _ h => hFc q h) hFc (fun W1 t H1 locs ht hvm hw hB hz1 hk1 hS => ?_)
  obtain ⟨hP1, hD1⟩ := hB
  rw [ht] at hP1
  obtain ⟨hP, hD⟩ := va_join (wr := X) (w1 := W1) hP hD [X.length] (List.range X.length) (by simp) (range_get X _) (va_nd_range _) (fun i hi hj => by
    have h1 := List.mem_range.mp hi
    have h2 := List.mem_singleton.mp hj
    omega) hk1 hFc hP1 hD1
  exact k W1 H1 locs hw hP hD hS
theorem arr_of {s : State} {args : Array Value} {t : FieldType} (h : (Cond.arrayClass t).before args s = true) (ho : ∀ C, t ≠ .object C) : ∃ c : ClassId, ArrOfT s c t ∧ va_RA s c t := by
  obtain ⟨c, k, comp, h1, h2, h3⟩ := Cond.arrayClass_spec h
  refine ⟨c, fun N z => ⟨(fun q hq => by cases hq), k, h2, comp, h3⟩, ?_⟩
  cases t <;> first | exact h1 | exact absurd rfl (ho _)
theorem arr_ofO {s : State} (h : zO s) : ∃ c : ClassId, ArrOfT s c (.object "OldBeams$Beam") ∧ va_RA s c (.object "OldBeams$Beam") := by
  obtain ⟨comp, c, k, h1, h2, h3, h4, h5⟩ := Cond.arrayOver_spec h.1
  exact ⟨c, fun N z => ⟨(fun q hq => by cases hq), k, h3, comp, h4⟩, k, comp, h3, h4, h1, h5⟩
theorem arr_ofA {s : State} (h : zO s) : ∃ c : ClassId, ArrOfT s c (.array .int) ∧ va_RA s c (.array .int) := by
  obtain ⟨comp, c, k, h1, h2, h3, h4, h5⟩ := arrayOverA_spec h.2
  exact ⟨c, fun N z => ⟨(fun q hq => by cases hq), k, h3, comp, h4⟩, h5⟩
theorem start_K {s : State} {args : Array Value} (hts : ∀ w ∈ tb, w.before args s = true) (hO : zO s) : ∃ (D : va_G) (cl : Nat → ClassId), va_K D zcl (zT cl) s := by
  obtain ⟨cO, iO, hO'⟩ := u_known (C := RX_O) (T := TX_O) (N := 7) (n := 7) hts (tb_lay lay_O) (hts _ k_11)
  obtain ⟨cF, iF, hF'⟩ := u_known (C := RX_F) (T := TX_F) (N := 15) (n := 15) hts (tb_lay lay_F) (hts _ k_19)
  obtain ⟨cK, iK, hK'⟩ := u_known (C := RX_K) (T := TX_K) (N := 9) (n := 9) hts (tb_lay lay_K) (hts _ k_150)
  obtain ⟨cQ, iQ, hQ'⟩ := u_known (C := RX_Q) (T := TX_Q) (N := 2) (n := 2) hts (tb_lay lay_Q) (hts _ k_189)
  obtain ⟨cB, iB, hB'⟩ := u_known (C := RX_B) (T := TX_B) (N := 13) (n := 13) hts (tb_lay lay_B) (hts _ k_28)
  obtain ⟨cM, iM, hM'⟩ := u_known (C := RX_M) (T := TX_M) (N := 45) (n := 45) hts (tb_lay lay_M) (hts _ k_631)
  obtain ⟨t0, g0⟩ := arr_of (t := .int) (hts _ k_90) (fun C h => by cases h)
  obtain ⟨t1, g1⟩ := arr_of (t := .boolean) (hts _ k_91) (fun C h => by cases h)
  obtain ⟨t2, g2⟩ := arr_of (t := .long) (hts _ k_92) (fun C h => by cases h)
  obtain ⟨t3, g3⟩ := arr_ofO hO
  obtain ⟨t4, g4⟩ := arr_ofA hO
  refine ⟨(fun k => ([cO, cF, cK, cQ, cB, cM] : List ClassId).getD k cO, fun k => ([iO, iF, iK, iQ, iB, iM] : List (Nat → Nat)).getD k iO), fun k => ([t0, t1, t2, t3, t4] : List ClassId).getD k t0, ?_, ?_⟩
  · intro k q hq
    match k, hq with
    | 0, hq => cases hq; exact hO'
    | 1, hq => cases hq; exact hF'
    | 2, hq => cases hq; exact hK'
    | 3, hq => cases hq; exact hQ'
    | 4, hq => cases hq; exact hB'
    | 5, hq => cases hq; exact hM'
    | k + 6, hq => simp [zcl] at hq
  · intro k q hq
    match k, hq with
    | 0, hq => cases hq; exact g0
    | 1, hq => cases hq; exact g1
    | 2, hq => cases hq; exact g2
    | 3, hq => cases hq; exact g3
    | 4, hq => cases hq; exact g4
    | k + 5, hq => simp [zT] at hq
set_option maxHeartbeats 4000000 in
set_option maxRecDepth 100000 in
theorem whole_start {p : Program} {e : Env} {s : State} {m : MethodId} {below : List Frame} {meth : Method} {c : Code} (l : Launch) {b L : Nat} {xs : Nat → Int32} (hL : L ≤ 3072) (C0 : lw_At p s m meth c b L xs) : W p l e room_1 s m #[Value.ref b] below meth c s.heap [] 0 0 (lw_Z below #[Value.ref b] s) (entryFrame m ([Value.ref b] : List Value).toArray 4) := by
  obtain ⟨hx, hb, hr, hml, hown, hts0, hX, hbl, hlocks, hgv⟩ := id C0
  have hts : ∀ w ∈ tb, w.before #[Value.ref b] s = true := fun w hw => hts0 w (List.mem_filter.mp hw).1
  have hO : zO s := ⟨va_AO.of (hts0 (.arrayOver (.object "OldBeams$Beam")) (List.mem_append_right _ (show _ ∈ tables_1 from (List.mem_append_left _ (show _ ∈ tables_1_1 from List.mem_of_getElem? (i := 27) rfl))))), hts0 (.arrayOver (.array .int)) (List.mem_append_right _ (show _ ∈ tables_1 from (List.mem_append_left _ (show _ ∈ tables_1_1 from List.mem_of_getElem? (i := 25) rfl))))⟩
  have hN : zN s := ⟨va_Nw.of rfl (hts0 (.methodLinkNest "OldBeams$Frame" 83 ⟨"OldBeams", "isIn", "(II)Z"⟩ "OldBeams") (List.mem_append_right _ (show _ ∈ tables_1 from (List.mem_append_right _ (List.mem_append_left _ (show _ ∈ tables_1_2 from List.mem_of_getElem? (i := 57) rfl)))))), va_Nw.of rfl (hts0 (.methodLinkNest "OldBeams$Frame" 50 ⟨"OldBeams", "within", "(III)Z"⟩ "OldBeams") (List.mem_append_right _ (show _ ∈ tables_1 from (List.mem_append_right _ (List.mem_append_left _ (show _ ∈ tables_1_2 from List.mem_of_getElem? (i := 21) rfl)))))), va_Nw.of rfl (hts0 (.methodLinkNest "OldBeams$Frame" 45 ⟨"OldBeams$Beam", "<init>", "()V"⟩ "OldBeams") (List.mem_append_right _ (show _ ∈ tables_1 from (List.mem_append_left _ (show _ ∈ tables_1_1 from List.mem_of_getElem? (i := 29) rfl))))), va_Nw.of rfl (hts0 (.methodLinkNest "OldBeams" 25 ⟨"OldBeams$Fraction", "<init>", "()V"⟩ "OldBeams") (List.mem_append_right _ (show _ ∈ tables_1 from (List.mem_append_left _ (show _ ∈ tables_1_1 from List.mem_of_getElem? (i := 190) rfl)))))⟩
  obtain ⟨D, cl, hK⟩ := start_K hts hO
  have hA : ∀ q : Nat, s.heap.size ≤ q → zAl s q := fun _ h => h
  have hS : va_S (zAl s) s.heap s.heap [] := va_S.rf
  have hP : va_P D zcl [] s.heap := fun k q h => by simp at h
  have hD : va_D (zAl s) [] := ⟨fun i j p q h => by simp at h, fun k q h => by simp at h⟩
  rw [lg_entry_eq]
  have hl : lh ((lg_sl ([.ref b]) ++ List.replicate (4 - (lg_sl ([.ref b])).length) Slot.unset).toArray) [some (.ref b), none, none, none] := lh_entry (vs := [Value.ref b]) (n := 4) (Nat.le_of_ble_eq_true rfl)
  generalize (lg_sl ([.ref b]) ++ List.replicate (4 - (lg_sl ([.ref b])).length) Slot.unset).toArray = ls at hl ⊢
  refine va_new (ci := 0) (fs := [.null, .null, .null, .null, .null, .null, .null]) (C := RX_O) (T := TX_O) (N := 7) hx hb hts (tb_lay lay_O) ty_O tyok_O hown (hts _ k_10) (hts _ k_11) (hts _ k_1) hK hP hD hS hA rfl (by decide) (Nat.le_of_ble_eq_true rfl) (Nat.le_of_ble_eq_true rfl) d_law_0 (fun q0 H hP hD hS => ?_)
  refine lv_dup hx hb d_law_3 rfl ?_
  refine w_init (X := []) (y := y_O_init) (bytes := b_O_init) (maxL := 1) (fr2 := 3) (ce2 := 128) (sl2 := 2436) (lc2 := 61) hx hb hml hown hts hN hA hK hO (fun sz => i_O_init l D cl q0 sz) k_14 k_12 k_13 k_1 (by decide +kernel) rfl ⟨by decide, by decide⟩ ⟨by decide, by decide⟩ (Nat.le_of_ble_eq_true rfl) rfl d_law_4 hP hD hS hl (fun W1 H locs hp hP hD hS => ?_)
  obtain ⟨a1, ha1, hP, hD⟩ := toX hp hP hD
  refine w_ast1 hx hb rfl d_law_7 hl (fun ls hl => ?_)
  refine va_new (ci := 5) (fs := [.null, .null, .int 0, .null, .null, .null, .null, .null, .null, .null, .null, .null, .int 0, .null, .null, .null, .null, .int 0, .null, .null, .null, .null, .null, .null, .null, .null, .null, .null, .null, .null, .null, .int 0, .null, .null, .null, .null, .null, .null, .int 0, .long 0, .long 0, .null, .int 0, .int 0, .int 0]) (C := RX_M) (T := TX_M) (N := 45) hx hb hts (tb_lay lay_M) ty_M tyok_M hown (hts _ k_630) (hts _ k_631) (hts _ k_6) hK hP hD hS hA rfl (by decide) (Nat.le_of_ble_eq_true rfl) (Nat.le_of_ble_eq_true rfl) d_law_8 (fun q1 H hP hD hS => ?_)
  refine lv_dup hx hb d_law_11 rfl ?_
  refine w_init (X := [] ++ zw sX (D, cl, a1) MX0) (y := y_M_init) (bytes := b_M_init) (maxL := 2) (fr2 := 1) (ce2 := 35) (sl2 := 1610) (lc2 := 20) hx hb hml hown hts hN hA hK hO (fun sz => i_M_init l D cl q1 sz) k_634 k_632 k_633 k_6 (by decide +kernel) rfl ⟨by decide, by decide⟩ ⟨by decide, by decide⟩ (Nat.le_of_ble_eq_true rfl) rfl d_law_12 hP hD hS hl (fun W2 H9 locs9 hp9 hP9 hD9 hS9 => ?_)
  obtain ⟨a2, ha2, hP8, hD8⟩ := toM hp9 hP9 hD9
  refine w_ast2 hx hb rfl d_law_15 hl (fun ls hl => ?_)
  refine lv_iconst (v := 0) hx hb d_law_16 rfl ?_
  refine w_ist3 hx hb rfl d_law_17 hl (fun ls9 hl9 => ?_)
  have C : zLC ((D, cl, a1), (D, cl, a2), l, p, e, s, m, below, meth, c, b, L, xs) := ⟨hx, hb, hr, hml, hown, hts, hX, hbl, hlocks, hK, hN, hL, rfl, rfl⟩
  subst ha1 ha2
  exact l_loop C 1000 0 S0 MX0 MM0 (by show L + 6 ≤ 0 + 6 * 1000; omega) (by decide) ok_S0 RX_S0 RM_S0 H9 locs9 ls9 hP8 hD8 hS9 hl9
