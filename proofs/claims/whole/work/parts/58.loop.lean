theorem w_ast1 {p : Program} {l : Launch} {e : Env} {R : Room} {s : State} {m : MethodId} {args : Array Value} {below : List Frame} {meth : Method} {c : Code} {H : Heap} {locs : List Loc} {cells slots : Nat} {Q : State → Prop} {cc : ByteArray} {pc : Nat} {ls : Array Slot} {st : List Value} {r : List (Option Value)} {a0 q0 : Option Value} {x : Nat} (hx : p.tables.exec = Jvm.exec) (hb : c.code = cc) (h1 : zc1 a0 = true) (d : decode cc pc = .ok (.astore_n 1, 1)) (hl : lh ls (a0 :: q0 :: r)) (k : ∀ ls' : Array Slot, lh ls' (a0 :: some (.ref x) :: r) → W p l e R s m args below meth c H locs cells slots Q (F0 m (pc + 1) ls' st)) : W p l e R s m args below meth c H locs cells slots Q (F0 m pc ls (.ref x :: st)) := by
  obtain ⟨ls', e', h'⟩ := lh_store1 (v := .ref x) (i := 1) hl (by simp) rfl (lh_c1 (lo := (a0 :: q0 :: r)) (i := 1) (Or.inr ⟨0, _, rfl, rfl, h1⟩))
  intro T hT X
  obtain ⟨t, a, b⟩ := k ls' h' T hT X
  refine ⟨t, ?_, b⟩
  jvm_step X.here [X.here.top, hx, hb, d, e', Value.isRef]
  exact a
theorem w_ast2 {p : Program} {l : Launch} {e : Env} {R : Room} {s : State} {m : MethodId} {args : Array Value} {below : List Frame} {meth : Method} {c : Code} {H : Heap} {locs : List Loc} {cells slots : Nat} {Q : State → Prop} {cc : ByteArray} {pc : Nat} {ls : Array Slot} {st : List Value} {r : List (Option Value)} {a0 a1 q0 : Option Value} {x : Nat} (hx : p.tables.exec = Jvm.exec) (hb : c.code = cc) (h1 : zc1 a1 = true) (d : decode cc pc = .ok (.astore_n 2, 1)) (hl : lh ls (a0 :: a1 :: q0 :: r)) (k : ∀ ls' : Array Slot, lh ls' (a0 :: a1 :: some (.ref x) :: r) → W p l e R s m args below meth c H locs cells slots Q (F0 m (pc + 1) ls' st)) : W p l e R s m args below meth c H locs cells slots Q (F0 m pc ls (.ref x :: st)) := by
  obtain ⟨ls', e', h'⟩ := lh_store1 (v := .ref x) (i := 2) hl (by simp) rfl (lh_c1 (lo := (a0 :: a1 :: q0 :: r)) (i := 2) (Or.inr ⟨1, _, rfl, rfl, h1⟩))
  intro T hT X
  obtain ⟨t, a, b⟩ := k ls' h' T hT X
  refine ⟨t, ?_, b⟩
  jvm_step X.here [X.here.top, hx, hb, d, e', Value.isRef]
  exact a
theorem w_ist3 {p : Program} {l : Launch} {e : Env} {R : Room} {s : State} {m : MethodId} {args : Array Value} {below : List Frame} {meth : Method} {c : Code} {H : Heap} {locs : List Loc} {cells slots : Nat} {Q : State → Prop} {cc : ByteArray} {pc : Nat} {ls : Array Slot} {st : List Value} {r : List (Option Value)} {a0 a1 a2 q0 : Option Value} {x : Int32} (hx : p.tables.exec = Jvm.exec) (hb : c.code = cc) (h1 : zc1 a2 = true) (d : decode cc pc = .ok (.istore_n 3, 1)) (hl : lh ls (a0 :: a1 :: a2 :: q0 :: r)) (k : ∀ ls' : Array Slot, lh ls' (a0 :: a1 :: a2 :: some (.int x) :: r) → W p l e R s m args below meth c H locs cells slots Q (F0 m (pc + 1) ls' st)) : W p l e R s m args below meth c H locs cells slots Q (F0 m pc ls (.int x :: st)) := by
  obtain ⟨ls', e', h'⟩ := lh_store1 (v := .int x) (i := 3) hl (by simp) rfl (lh_c1 (lo := (a0 :: a1 :: a2 :: q0 :: r)) (i := 3) (Or.inr ⟨2, _, rfl, rfl, h1⟩))
  intro T hT X
  obtain ⟨t, a, b⟩ := k ls' h' T hT X
  refine ⟨t, ?_, b⟩
  jvm_step X.here [X.here.top, hx, hb, d, e', Value.isRef]
  exact a
theorem w_iinc3 {p : Program} {l : Launch} {e : Env} {R : Room} {s : State} {m : MethodId} {args : Array Value} {below : List Frame} {meth : Method} {c : Code} {H : Heap} {locs : List Loc} {cells slots : Nat} {Q : State → Prop} {cc : ByteArray} {pc : Nat} {ls : Array Slot} {st : List Value} {r : List (Option Value)} {a0 a1 a2 : Option Value} {z n : Int} (hx : p.tables.exec = Jvm.exec) (hb : c.code = cc) (h1 : zc1 a2 = true) (d : decode cc pc = .ok (.iinc 3 n, 3)) (hl : lh ls (a0 :: a1 :: a2 :: some (.int (iI z)) :: r)) (k : ∀ ls' : Array Slot, lh ls' (a0 :: a1 :: a2 :: some (.int (iI (z + n))) :: r) → W p l e R s m args below meth c H locs cells slots Q (F0 m (pc + 3) ls' st)) : W p l e R s m args below meth c H locs cells slots Q (F0 m pc ls st) := by
  obtain ⟨ls', e', h'⟩ := lh_store1 (v := .int (iI (z + n))) (i := 3) hl (by simp) rfl (lh_c1 (lo := (a0 :: a1 :: a2 :: some (.int (iI z)) :: r)) (i := 3) (Or.inr ⟨2, _, rfl, rfl, h1⟩))
  have hg : ls[3]? = some (.val (.int (iI z))) := hl.2.2 3 _ rfl
  have e2 : iI z + Int32.ofInt n = iI (z + n) := iI_add z n
  intro T hT X
  obtain ⟨t, a, b⟩ := k ls' h' T hT X
  refine ⟨t, ?_, b⟩
  rw [← e2] at e'
  jvm_step X.here [X.here.top, hx, hb, d, hg, e']
  exact a
theorem ofNat_iI {n : Nat} (h : n < 2147483648) : Int32.ofNat n = iI (n : Int) := Int32.toInt_inj.mp (by
  rw [iI_toInt (by omega)]
  exact nI_toInt h)
theorem l_end {G : zLG} (C : zLC G) {M1 M2 : zM} {lo : List (Option Value)} : VL G M1 M2 1640 lo [] := by
  obtain ⟨E1, E2, l, p, e, s, m, below, meth, c, b, L, xs⟩ := G
  obtain ⟨hx, hb, hr, hml, hown, hts, hX, hbl, hlk, hK, hN, hL, hE, hE2⟩ := C
  intro H locs ls hP hD hS hl
  refine lv_iconst hx hb d_law_1640 rfl ?_
  refine va_forget hS.2.2 ?_
  refine W.widen (k := 600000) (n := 7302250) (by decide) (by decide) ?_
  exact lw_ret hx hb hr hlk d_law_1641
theorem l_head {G : zLG} (C : zLC G) {M1 M2 : zM} {i : Nat} (hi3 : i < 10000) (kx : ¬ (i + 6 ≤ G.2.2.2.2.2.2.2.2.2.2.2.1) → VL G M1 M2 1640 (LOC G i) []) (k : i + 6 ≤ G.2.2.2.2.2.2.2.2.2.2.2.1 → VL G M1 M2 27 (LOC G i) []) : VL G M1 M2 18 (LOC G i) [] := by
  obtain ⟨E1, E2, l, p, e, s, m, below, meth, c, b, L, xs⟩ := G
  obtain ⟨hx, hb, hr, hml, hown, hts, hX, hbl, hlk, hK, hN, hL, hE, hE2⟩ := C
  intro H locs ls hP hD hS hl
  dsimp only at kx k
  refine lv_iload_n hx hb d_law_18 rfl (hl.2.2 3 _ rfl) ?_
  refine lv_aload_n hx hb d_law_19 rfl (hl.2.2 0 _ rfl) ?_
  refine va_slen hx hb hX hbl (show ¬ zAl s b from by show ¬ s.heap.size ≤ b; omega) hS d_law_20 ?_
  refine lv_bipush (v := iI 6) hx hb d_law_21 rfl ?_
  refine lv_isub hx hb d_law_23 ?_
  rw [ofNat_iI (by omega), iI_sub]
  refine lv_icmp_gt (tgt := 1640) hx hb d_law_24 (by decide) (fun q => ?_) (fun q => ?_)
  · have q := (iI_lt (by omega) (by omega)).mp q
    exact kx (by omega) H locs ls hP hD hS hl
  · have q : ¬ (L : Int) - 6 < (i : Int) := fun z => q ((iI_lt (by omega) (by omega)).mpr z)
    exact k (by omega) H locs ls hP hD hS hl
theorem l_tab {G : zLG} (C : zLC G) {M1 M2 : zM} {lo : List (Option Value)} {st : List Value} {j tgt : Nat} {off : Int} (hj : j < 35) (ho : (#[155, 198, 261, 324, 357, 406, 449, 472, 495, 529, 563, 613, 636, 669, 692, 735, 778, 831, 875, 908, 977, 1036, 1085, 1145, 1168, 1201, 1244, 1287, 1336, 1359, 1392, 1425, 1485, 1555, 1578] : Array Int)[j]? = some off) (ht : (33 : Int) + off = (tgt : Int)) (k : VL G M1 M2 tgt lo st) : VL G M1 M2 33 lo (.int (nI j) :: st) := by
  obtain ⟨E1, E2, l, p, e, s, m, below, meth, c, b, L, xs⟩ := G
  obtain ⟨hx, hb, hr, hml, hown, hts, hX, hbl, hlk, hK, hN, hL, hE, hE2⟩ := C
  intro H locs ls hP hD hS hl
  have e1 : (nI j).toInt = (j : Int) := nI_toInt (by omega)
  exact lv_tableIn hx hb d_law_33 (by rw [e1]; omega) (by rw [e1]; omega) (by rw [e1, show ((j : Int) - 0).toNat = j by omega]; exact ho) ht (k H locs ls hP hD hS hl)
theorem l_tabO {G : zLG} (C : zLC G) {M1 M2 : zM} {lo : List (Option Value)} {st : List Value} {j : Nat} (hj : ¬ j < 35) (hj2 : j < 64) (k : VL G M1 M2 1634 lo st) : VL G M1 M2 33 lo (.int (nI j) :: st) := by
  obtain ⟨E1, E2, l, p, e, s, m, below, meth, c, b, L, xs⟩ := G
  obtain ⟨hx, hb, hr, hml, hown, hts, hX, hbl, hlk, hK, hN, hL, hE, hE2⟩ := C
  intro H locs ls hP hD hS hl
  have e1 : (nI j).toInt = (j : Int) := nI_toInt (by omega)
  exact lv_tableOut (tgt := 1634) hx hb d_law_33 (by rw [e1]; omega) (by decide) (k H locs ls hP hD hS hl)
theorem l_body {G : zLG} (C : zLC G) {M1 M2 : zM} {S : zS} {i : Nat} (hi : i + 6 ≤ G.2.2.2.2.2.2.2.2.2.2.2.1) (hO : ok S) (h1 : RX S M1) (h2 : RM S M2) (k : zLk G i) : VL G M1 M2 27 (LOC G i) [] := by
  have all : ∀ j, j < 35 → VL G M1 M2 33 (LOC G i) [.int (nI j)] := by
    refine lt_s ?_ (l_tab C (tgt := 1611) (by decide) rfl (by decide) (law_34 C hi hO h1 h2 k))
    refine lt_s ?_ (l_tab C (tgt := 1588) (by decide) rfl (by decide) (law_33 C hi hO h1 h2 k))
    refine lt_s ?_ (l_tab C (tgt := 1518) (by decide) rfl (by decide) (law_32 C hi hO h1 h2 k))
    refine lt_s ?_ (l_tab C (tgt := 1458) (by decide) rfl (by decide) (law_31 C hi hO h1 h2 k))
    refine lt_s ?_ (l_tab C (tgt := 1425) (by decide) rfl (by decide) (law_30 C hi hO h1 h2 k))
    refine lt_s ?_ (l_tab C (tgt := 1392) (by decide) rfl (by decide) (law_29 C hi hO h1 h2 k))
    refine lt_s ?_ (l_tab C (tgt := 1369) (by decide) rfl (by decide) (law_28 C hi hO h1 h2 k))
    refine lt_s ?_ (l_tab C (tgt := 1320) (by decide) rfl (by decide) (law_27 C hi hO h1 h2 k))
    refine lt_s ?_ (l_tab C (tgt := 1277) (by decide) rfl (by decide) (law_26 C hi hO h1 h2 k))
    refine lt_s ?_ (l_tab C (tgt := 1234) (by decide) rfl (by decide) (law_25 C hi hO h1 h2 k))
    refine lt_s ?_ (l_tab C (tgt := 1201) (by decide) rfl (by decide) (law_24 C hi hO h1 h2 k))
    refine lt_s ?_ (l_tab C (tgt := 1178) (by decide) rfl (by decide) (law_23 C hi hO h1 h2 k))
    refine lt_s ?_ (l_tab C (tgt := 1118) (by decide) rfl (by decide) (law_22 C hi hO h1 h2 k))
    refine lt_s ?_ (l_tab C (tgt := 1069) (by decide) rfl (by decide) (law_21 C hi hO h1 h2 k))
    refine lt_s ?_ (l_tab C (tgt := 1010) (by decide) rfl (by decide) (law_20 C hi hO h1 h2 k))
    refine lt_s ?_ (l_tab C (tgt := 941) (by decide) rfl (by decide) (law_19 C hi hO h1 h2 k))
    refine lt_s ?_ (l_tab C (tgt := 908) (by decide) rfl (by decide) (law_18 C hi hO h1 h2 k))
    refine lt_s ?_ (l_tab C (tgt := 864) (by decide) rfl (by decide) (law_17 C hi hO h1 h2 k))
    refine lt_s ?_ (l_tab C (tgt := 811) (by decide) rfl (by decide) (law_16 C hi hO h1 h2 k))
    refine lt_s ?_ (l_tab C (tgt := 768) (by decide) rfl (by decide) (law_15 C hi hO h1 h2 k))
    refine lt_s ?_ (l_tab C (tgt := 725) (by decide) rfl (by decide) (law_14 C hi hO h1 h2 k))
    refine lt_s ?_ (l_tab C (tgt := 702) (by decide) rfl (by decide) (law_13 C hi hO h1 h2 k))
    refine lt_s ?_ (l_tab C (tgt := 669) (by decide) rfl (by decide) (law_12 C hi hO h1 h2 k))
    refine lt_s ?_ (l_tab C (tgt := 646) (by decide) rfl (by decide) (law_11 C hi hO h1 h2 k))
    refine lt_s ?_ (l_tab C (tgt := 596) (by decide) rfl (by decide) (law_10 C hi hO h1 h2 k))
    refine lt_s ?_ (l_tab C (tgt := 562) (by decide) rfl (by decide) (law_9 C hi hO h1 h2 k))
    refine lt_s ?_ (l_tab C (tgt := 528) (by decide) rfl (by decide) (law_8 C hi hO h1 h2 k))
    refine lt_s ?_ (l_tab C (tgt := 505) (by decide) rfl (by decide) (law_7 C hi hO h1 h2 k))
    refine lt_s ?_ (l_tab C (tgt := 482) (by decide) rfl (by decide) (law_6 C hi hO h1 h2 k))
    refine lt_s ?_ (l_tab C (tgt := 439) (by decide) rfl (by decide) (law_5 C hi hO h1 h2 k))
    refine lt_s ?_ (l_tab C (tgt := 390) (by decide) rfl (by decide) (law_4 C hi hO h1 h2 k))
    refine lt_s ?_ (l_tab C (tgt := 357) (by decide) rfl (by decide) (law_3 C hi hO h1 h2 k))
    refine lt_s ?_ (l_tab C (tgt := 294) (by decide) rfl (by decide) (law_2 C hi hO h1 h2 k))
    refine lt_s ?_ (l_tab C (tgt := 231) (by decide) rfl (by decide) (law_1 C hi hO h1 h2 k))
    refine lt_s ?_ (l_tab C (tgt := 188) (by decide) rfl (by decide) (law_0 C hi hO h1 h2 k))
    exact lt_0
  have out : ∀ j, ¬ j < 35 → j < 64 → VL G M1 M2 33 (LOC G i) [.int (nI j)] := fun j hj hj2 => l_tabO C hj hj2 (k S M1 M2 hO h1 h2)
  obtain ⟨E1, E2, l, p, e, s, m, below, meth, c, b, L, xs⟩ := G
  obtain ⟨hx, hb, hr, hml, hown, hts, hX, hbl, hlk, hK, hN, hL, hE, hE2⟩ := C
  intro H locs ls hP hD hS hl
  have hi : i + 6 ≤ L := hi
  refine lv_aload_n hx hb d_law_27 rfl (hl.2.2 0 _ rfl) ?_
  refine lv_iload_n hx hb d_law_28 rfl (hl.2.2 3 _ rfl) ?_
  obtain ⟨i1, i2⟩ := iI_in (n := L) (a := (i : Int)) (by omega) (by omega) (by omega)
  refine va_sld hx hb hX hbl (show ¬ zAl s b from by show ¬ s.heap.size ≤ b; omega) hS i1 d_law_29 ?_
  rw [i2]
  refine lv_bipush (v := 63) hx hb d_law_30 rfl ?_
  refine lv_iand hx hb d_law_32 ?_
  obtain ⟨j, hj, ej⟩ := pk_andE (xs ((i : Int)).toNat) (m := 63) 6 (by decide)
  rw [ej]
  by_cases h35 : j < 35
  · exact all j h35 H locs ls hP hD hS hl
  · exact out j h35 hj H locs ls hP hD hS hl
theorem l_loop {G : zLG} (C : zLC G) : ∀ (n i : Nat) (S : zS) (M1 M2 : zM), G.2.2.2.2.2.2.2.2.2.2.2.1 + 6 ≤ i + 6 * n → i < 5000 → ok S → RX S M1 → RM S M2 → VL G M1 M2 18 (LOC G i) []
  | n, i, S, M1, M2, hn, h5, hO, h1, h2 => by
    refine l_head C (by omega) (fun _ => l_end C) (fun hi => ?_)
    match n, hn with
    | 0, hn => omega
    | n + 1, hn =>
      have hL3 : G.2.2.2.2.2.2.2.2.2.2.2.1 ≤ 3072 := by
        obtain ⟨E1, E2, l, p, e, s, m, below, meth, c, b, L, xs⟩ := G
        exact C.2.2.2.2.2.2.2.2.2.2.2.1
      refine l_body C hi hO h1 h2 (fun S' M1' M2' hO' h1' h2' => ?_)
      have ih := l_loop C n (i + 6) S' M1' M2' (by omega) (by omega) hO' h1' h2'
      obtain ⟨E1, E2, l, p, e, s, m, below, meth, c, b, L, xs⟩ := G
      obtain ⟨hx, hb, hr, hml, hown, hts, hX, hbl, hlk, hK, hN, hL, hE, hE2⟩ := C
      intro H locs ls hP hD hS hl
      refine w_iinc3 hx hb rfl d_law_1634 hl (fun ls' hl' => ?_)
      refine lv_goto (tgt := 18) hx hb d_law_1637 (by decide) ?_
      exact ih H locs ls' hP hD hS hl'
