theorem iI_add (a b : Int) : iI a + iI b = iI (a + b) := (Int32.ofInt_add a b).symm
theorem iI_sub (a b : Int) : iI a - iI b = iI (a - b) := (Int32.ofInt_sub a b).symm
theorem iI_mul (a b : Int) : iI a * iI b = iI (a * b) := (Int32.ofInt_mul a b).symm
theorem iI_neg (a : Int) : -(iI a) = iI (-a) := (Int32.ofInt_neg (a := a)).symm
theorem iI_toInt {a : Int} (h : -2147483648 ≤ a ∧ a < 2147483648) : (iI a).toInt = a := Int32.toInt_ofInt_of_le (by simpa using h.1) (by simpa using h.2)
theorem iI_of (x : Int32) : x = iI x.toInt := Int32.ofInt_toInt x |>.symm
theorem iI_rng (x : Int32) : -2147483648 ≤ x.toInt ∧ x.toInt < 2147483648 := ⟨Int32.le_toInt x, Int32.toInt_lt x⟩
theorem iI_lt {a b : Int} (ha : -2147483648 ≤ a ∧ a < 2147483648) (hb : -2147483648 ≤ b ∧ b < 2147483648) : iI a < iI b ↔ a < b := by rw [Int32.lt_iff_toInt_lt, iI_toInt ha, iI_toInt hb]
theorem iI_le {a b : Int} (ha : -2147483648 ≤ a ∧ a < 2147483648) (hb : -2147483648 ≤ b ∧ b < 2147483648) : iI a ≤ iI b ↔ a ≤ b := by rw [Int32.le_iff_toInt_le, iI_toInt ha, iI_toInt hb]
theorem iI_eq {a b : Int} (ha : -2147483648 ≤ a ∧ a < 2147483648) (hb : -2147483648 ≤ b ∧ b < 2147483648) : iI a = iI b ↔ a = b := by rw [← Int32.toInt_inj, iI_toInt ha, iI_toInt hb]
theorem iI_0 : iI 0 = 0 := rfl
theorem iI_nI (n : Nat) : iI (n : Int) = nI n := Int32.toInt_inj.mp (by simp [iI, nI, Int32.toInt_ofInt, Int32.toInt_ofNat'])
theorem iI_l {a : Int} (h : -2147483648 ≤ a ∧ a < 2147483648) : (iI a).toInt64 = lI a := by
  apply Int64.toInt_inj.mp
  rw [Int32.toInt_toInt64, iI_toInt h, lI, Int64.toInt_ofInt_of_le (by simp; omega) (by simp; omega)]
theorem iI_div {a b : Int} (ha : 0 ≤ a ∧ a < 2147483648) (hb : 0 < b ∧ b < 2147483648) : iI a / iI b = iI (a / b) := by
  obtain ⟨n, rfl⟩ := Int.eq_ofNat_of_zero_le ha.1
  obtain ⟨k, rfl⟩ := Int.eq_ofNat_of_zero_le (Int.le_of_lt hb.1)
  rw [iI_nI, iI_nI, pk_div (by omega) (by omega) (by omega), ← iI_nI]
  rfl
theorem iI_rem {a b : Int} (ha : 0 ≤ a ∧ a < 2147483648) (hb : 0 < b ∧ b < 2147483648) : iI a - iI a / iI b * iI b = iI (a % b) := by
  obtain ⟨n, rfl⟩ := Int.eq_ofNat_of_zero_le ha.1
  obtain ⟨k, rfl⟩ := Int.eq_ofNat_of_zero_le (Int.le_of_lt hb.1)
  rw [iI_nI, iI_nI, pk_rem (by omega) (by omega) (by omega), ← iI_nI]
  rfl
theorem iI_in {a : Int} {n : Nat} (h0 : 0 ≤ a) (h1 : a < n) (hn : n < 2147483648) : vp_in (iI a) n ∧ (iI a).toNatClampNeg = a.toNat := by
  obtain ⟨k, rfl⟩ := Int.eq_ofNat_of_zero_le h0
  rw [iI_nI]
  exact ⟨vp_in_nI (by omega) (by omega), nI_clamp (by omega)⟩
theorem zb_pos {P : Prop} [Decidable P] (h : P) : zb P = 1 := if_pos h
theorem zb_neg {P : Prop} [Decidable P] (h : ¬ P) : zb P = 0 := if_neg h
theorem zb_01 (P : Prop) [Decidable P] : zb P = 0 ∨ zb P = 1 := by
  by_cases h : P
  · exact Or.inr (zb_pos h)
  · exact Or.inl (zb_neg h)
theorem zb_congr {P Q : Prop} [Decidable P] [Decidable Q] (h : P ↔ Q) : zb P = zb Q := by
  by_cases q : Q
  · rw [zb_pos (h.mpr q), zb_pos q]
  · rw [zb_neg (fun p => q (h.mp p)), zb_neg q]
theorem r_iconst {G : zG} {cc : ByteArray} {own : String} {ret : Option FieldType} {nL fr lc : Nat} (C : zC G cc own ret nL fr lc) {M : zM} {lo : List (Option Value)} {st : List Value} {pc : Nat} {n : Int} (d : decode cc pc = .ok (.iconst n, 1)) (k : VJ G M (pc + 1) lo (.int (iI n) :: st)) : VJ G M pc lo (st) := by
  obtain ⟨sd, E, P, l, p, e, R, s, m, args, below, meth, c⟩ := G
  obtain ⟨hx, hb, hr, hml, hown, hts, hK, hN, hlk, hR⟩ := C
  intro H locs ls hP hD hS hl
  refine lv_iconst hx hb d rfl ?_
  exact k H locs ls hP hD hS hl
theorem r_bipush {G : zG} {cc : ByteArray} {own : String} {ret : Option FieldType} {nL fr lc : Nat} (C : zC G cc own ret nL fr lc) {M : zM} {lo : List (Option Value)} {st : List Value} {pc : Nat} {n : Int} (hn : (Int8.ofInt n).toInt32 = iI n) (d : decode cc pc = .ok (.bipush n, 2)) (k : VJ G M (pc + 2) lo (.int (iI n) :: st)) : VJ G M pc lo (st) := by
  obtain ⟨sd, E, P, l, p, e, R, s, m, args, below, meth, c⟩ := G
  obtain ⟨hx, hb, hr, hml, hown, hts, hK, hN, hlk, hR⟩ := C
  intro H locs ls hP hD hS hl
  refine lv_bipush hx hb d hn ?_
  exact k H locs ls hP hD hS hl
theorem r_sipush {G : zG} {cc : ByteArray} {own : String} {ret : Option FieldType} {nL fr lc : Nat} (C : zC G cc own ret nL fr lc) {M : zM} {lo : List (Option Value)} {st : List Value} {pc : Nat} {n : Int} (hn : (Int16.ofInt n).toInt32 = iI n) (d : decode cc pc = .ok (.sipush n, 3)) (k : VJ G M (pc + 3) lo (.int (iI n) :: st)) : VJ G M pc lo (st) := by
  obtain ⟨sd, E, P, l, p, e, R, s, m, args, below, meth, c⟩ := G
  obtain ⟨hx, hb, hr, hml, hown, hts, hK, hN, hlk, hR⟩ := C
  intro H locs ls hP hD hS hl
  refine lv_sipush hx hb d hn ?_
  exact k H locs ls hP hD hS hl
theorem r_lconst {G : zG} {cc : ByteArray} {own : String} {ret : Option FieldType} {nL fr lc : Nat} (C : zC G cc own ret nL fr lc) {M : zM} {lo : List (Option Value)} {st : List Value} {pc : Nat} {n : Fin 2} {v : Int64} (hv : Int64.ofNat (n : Nat) = v) (d : decode cc pc = .ok (.lconst n, 1)) (k : VJ G M (pc + 1) lo (.long v :: st)) : VJ G M pc lo (st) := by
  obtain ⟨sd, E, P, l, p, e, R, s, m, args, below, meth, c⟩ := G
  obtain ⟨hx, hb, hr, hml, hown, hts, hK, hN, hlk, hR⟩ := C
  intro H locs ls hP hD hS hl
  refine lv_lconst hx hb d hv ?_
  exact k H locs ls hP hD hS hl
theorem r_ldc {G : zG} {cc : ByteArray} {own : String} {ret : Option FieldType} {nL fr lc : Nat} (C : zC G cc own ret nL fr lc) {M : zM} {lo : List (Option Value)} {st : List Value} {pc : Nat} {i : Nat} {z : Int} {v : Int32} (hw : Cond.constant own i v ∈ tb) (hv : v = iI z) (d : decode cc pc = .ok (.ldc i, 2)) (k : VJ G M (pc + 2) lo (.int (iI z) :: st)) : VJ G M pc lo (st) := by
  obtain ⟨sd, E, P, l, p, e, R, s, m, args, below, meth, c⟩ := G
  obtain ⟨hx, hb, hr, hml, hown, hts, hK, hN, hlk, hR⟩ := C
  intro H locs ls hP hD hS hl
  refine lv_ldc hx hb hown (hts _ hw) d ?_
  rw [hv]
  exact k H locs ls hP hD hS hl
theorem r_ldcw {G : zG} {cc : ByteArray} {own : String} {ret : Option FieldType} {nL fr lc : Nat} (C : zC G cc own ret nL fr lc) {M : zM} {lo : List (Option Value)} {st : List Value} {pc : Nat} {i : Nat} {z : Int} {v : Int32} (hw : Cond.constant own i v ∈ tb) (hv : v = iI z) (d : decode cc pc = .ok (.ldc_w i, 3)) (k : VJ G M (pc + 3) lo (.int (iI z) :: st)) : VJ G M pc lo (st) := by
  obtain ⟨sd, E, P, l, p, e, R, s, m, args, below, meth, c⟩ := G
  obtain ⟨hx, hb, hr, hml, hown, hts, hK, hN, hlk, hR⟩ := C
  intro H locs ls hP hD hS hl
  refine lv_ldcw hx hb hown (hts _ hw) d ?_
  rw [hv]
  exact k H locs ls hP hD hS hl
theorem r_ldc2 {G : zG} {cc : ByteArray} {own : String} {ret : Option FieldType} {nL fr lc : Nat} (C : zC G cc own ret nL fr lc) {M : zM} {lo : List (Option Value)} {st : List Value} {pc : Nat} {i : Nat} {v : Int64} (hw : Cond.constantLong own i v ∈ tb) (d : decode cc pc = .ok (.ldc2_w i, 3)) (k : VJ G M (pc + 3) lo (.long v :: st)) : VJ G M pc lo (st) := by
  obtain ⟨sd, E, P, l, p, e, R, s, m, args, below, meth, c⟩ := G
  obtain ⟨hx, hb, hr, hml, hown, hts, hK, hN, hlk, hR⟩ := C
  intro H locs ls hP hD hS hl
  refine lv_ldc2 hx hb hown (hts _ hw) d ?_
  exact k H locs ls hP hD hS hl
theorem r_iadd {G : zG} {cc : ByteArray} {own : String} {ret : Option FieldType} {nL fr lc : Nat} (C : zC G cc own ret nL fr lc) {M : zM} {lo : List (Option Value)} {st : List Value} {pc : Nat} {a b : Int} (d : decode cc pc = .ok (.iadd, 1)) (k : VJ G M (pc + 1) lo (.int (iI (a + b)) :: st)) : VJ G M pc lo (.int (iI b) :: .int (iI a) :: st) := by
  obtain ⟨sd, E, P, l, p, e, R, s, m, args, below, meth, c⟩ := G
  obtain ⟨hx, hb, hr, hml, hown, hts, hK, hN, hlk, hR⟩ := C
  intro H locs ls hP hD hS hl
  refine lv_iadd hx hb d ?_
  rw [iI_add]
  exact k H locs ls hP hD hS hl
theorem r_isub {G : zG} {cc : ByteArray} {own : String} {ret : Option FieldType} {nL fr lc : Nat} (C : zC G cc own ret nL fr lc) {M : zM} {lo : List (Option Value)} {st : List Value} {pc : Nat} {a b : Int} (d : decode cc pc = .ok (.isub, 1)) (k : VJ G M (pc + 1) lo (.int (iI (a - b)) :: st)) : VJ G M pc lo (.int (iI b) :: .int (iI a) :: st) := by
  obtain ⟨sd, E, P, l, p, e, R, s, m, args, below, meth, c⟩ := G
  obtain ⟨hx, hb, hr, hml, hown, hts, hK, hN, hlk, hR⟩ := C
  intro H locs ls hP hD hS hl
  refine lv_isub hx hb d ?_
  rw [iI_sub]
  exact k H locs ls hP hD hS hl
theorem r_imul {G : zG} {cc : ByteArray} {own : String} {ret : Option FieldType} {nL fr lc : Nat} (C : zC G cc own ret nL fr lc) {M : zM} {lo : List (Option Value)} {st : List Value} {pc : Nat} {a b : Int} (d : decode cc pc = .ok (.imul, 1)) (k : VJ G M (pc + 1) lo (.int (iI (a * b)) :: st)) : VJ G M pc lo (.int (iI b) :: .int (iI a) :: st) := by
  obtain ⟨sd, E, P, l, p, e, R, s, m, args, below, meth, c⟩ := G
  obtain ⟨hx, hb, hr, hml, hown, hts, hK, hN, hlk, hR⟩ := C
  intro H locs ls hP hD hS hl
  refine lv_imul hx hb d ?_
  rw [iI_mul]
  exact k H locs ls hP hD hS hl
theorem r_idiv {G : zG} {cc : ByteArray} {own : String} {ret : Option FieldType} {nL fr lc : Nat} (C : zC G cc own ret nL fr lc) {M : zM} {lo : List (Option Value)} {st : List Value} {pc : Nat} {a b : Int} (ha : 0 ≤ a ∧ a < 2147483648) (hb0 : 0 < b ∧ b < 2147483648) (d : decode cc pc = .ok (.idiv, 1)) (k : VJ G M (pc + 1) lo (.int (iI (a / b)) :: st)) : VJ G M pc lo (.int (iI b) :: .int (iI a) :: st) := by
  obtain ⟨sd, E, P, l, p, e, R, s, m, args, below, meth, c⟩ := G
  obtain ⟨hx, hb, hr, hml, hown, hts, hK, hN, hlk, hR⟩ := C
  intro H locs ls hP hD hS hl
  refine lv_idiv hx hb d (by rw [← iI_0, iI_eq ⟨by omega, by omega⟩ ⟨by omega, by omega⟩]; omega) ?_
  rw [iI_div ha hb0]
  exact k H locs ls hP hD hS hl
theorem r_irem {G : zG} {cc : ByteArray} {own : String} {ret : Option FieldType} {nL fr lc : Nat} (C : zC G cc own ret nL fr lc) {M : zM} {lo : List (Option Value)} {st : List Value} {pc : Nat} {a b : Int} (ha : 0 ≤ a ∧ a < 2147483648) (hb0 : 0 < b ∧ b < 2147483648) (d : decode cc pc = .ok (.irem, 1)) (k : VJ G M (pc + 1) lo (.int (iI (a % b)) :: st)) : VJ G M pc lo (.int (iI b) :: .int (iI a) :: st) := by
  obtain ⟨sd, E, P, l, p, e, R, s, m, args, below, meth, c⟩ := G
  obtain ⟨hx, hb, hr, hml, hown, hts, hK, hN, hlk, hR⟩ := C
  intro H locs ls hP hD hS hl
  refine lv_irem hx hb d (by rw [← iI_0, iI_eq ⟨by omega, by omega⟩ ⟨by omega, by omega⟩]; omega) ?_
  rw [iI_rem ha hb0]
  exact k H locs ls hP hD hS hl
theorem r_ineg {G : zG} {cc : ByteArray} {own : String} {ret : Option FieldType} {nL fr lc : Nat} (C : zC G cc own ret nL fr lc) {M : zM} {lo : List (Option Value)} {st : List Value} {pc : Nat} {a : Int} (d : decode cc pc = .ok (.ineg, 1)) (k : VJ G M (pc + 1) lo (.int (iI (-a)) :: st)) : VJ G M pc lo (.int (iI a) :: st) := by
  obtain ⟨sd, E, P, l, p, e, R, s, m, args, below, meth, c⟩ := G
  obtain ⟨hx, hb, hr, hml, hown, hts, hK, hN, hlk, hR⟩ := C
  intro H locs ls hP hD hS hl
  refine lv_ineg hx hb d ?_
  rw [iI_neg]
  exact k H locs ls hP hD hS hl
theorem r_iand {G : zG} {cc : ByteArray} {own : String} {ret : Option FieldType} {nL fr lc : Nat} (C : zC G cc own ret nL fr lc) {M : zM} {lo : List (Option Value)} {st : List Value} {pc : Nat} {x y : Int32} {v : Int32} (hv : x &&& y = v) (d : decode cc pc = .ok (.iand, 1)) (k : VJ G M (pc + 1) lo (.int v :: st)) : VJ G M pc lo (.int y :: .int x :: st) := by
  obtain ⟨sd, E, P, l, p, e, R, s, m, args, below, meth, c⟩ := G
  obtain ⟨hx, hb, hr, hml, hown, hts, hK, hN, hlk, hR⟩ := C
  intro H locs ls hP hD hS hl
  refine lv_iand hx hb d ?_
  rw [hv]
  exact k H locs ls hP hD hS hl
theorem r_ior {G : zG} {cc : ByteArray} {own : String} {ret : Option FieldType} {nL fr lc : Nat} (C : zC G cc own ret nL fr lc) {M : zM} {lo : List (Option Value)} {st : List Value} {pc : Nat} {x y : Int32} {v : Int32} (hv : x ||| y = v) (d : decode cc pc = .ok (.ior, 1)) (k : VJ G M (pc + 1) lo (.int v :: st)) : VJ G M pc lo (.int y :: .int x :: st) := by
  obtain ⟨sd, E, P, l, p, e, R, s, m, args, below, meth, c⟩ := G
  obtain ⟨hx, hb, hr, hml, hown, hts, hK, hN, hlk, hR⟩ := C
  intro H locs ls hP hD hS hl
  refine lv_ior hx hb d ?_
  rw [hv]
  exact k H locs ls hP hD hS hl
theorem r_ixor {G : zG} {cc : ByteArray} {own : String} {ret : Option FieldType} {nL fr lc : Nat} (C : zC G cc own ret nL fr lc) {M : zM} {lo : List (Option Value)} {st : List Value} {pc : Nat} {x y : Int32} {v : Int32} (hv : x ^^^ y = v) (d : decode cc pc = .ok (.ixor, 1)) (k : VJ G M (pc + 1) lo (.int v :: st)) : VJ G M pc lo (.int y :: .int x :: st) := by
  obtain ⟨sd, E, P, l, p, e, R, s, m, args, below, meth, c⟩ := G
  obtain ⟨hx, hb, hr, hml, hown, hts, hK, hN, hlk, hR⟩ := C
  intro H locs ls hP hD hS hl
  refine lv_ixor hx hb d ?_
  rw [hv]
  exact k H locs ls hP hD hS hl
theorem r_ishl {G : zG} {cc : ByteArray} {own : String} {ret : Option FieldType} {nL fr lc : Nat} (C : zC G cc own ret nL fr lc) {M : zM} {lo : List (Option Value)} {st : List Value} {pc : Nat} {x y : Int32} {v : Int32} (hv : x <<< (y &&& 31) = v) (d : decode cc pc = .ok (.ishl, 1)) (k : VJ G M (pc + 1) lo (.int v :: st)) : VJ G M pc lo (.int y :: .int x :: st) := by
  obtain ⟨sd, E, P, l, p, e, R, s, m, args, below, meth, c⟩ := G
  obtain ⟨hx, hb, hr, hml, hown, hts, hK, hN, hlk, hR⟩ := C
  intro H locs ls hP hD hS hl
  refine lv_ishl hx hb d ?_
  rw [hv]
  exact k H locs ls hP hD hS hl
theorem r_ishr {G : zG} {cc : ByteArray} {own : String} {ret : Option FieldType} {nL fr lc : Nat} (C : zC G cc own ret nL fr lc) {M : zM} {lo : List (Option Value)} {st : List Value} {pc : Nat} {x y : Int32} {v : Int32} (hv : x >>> (y &&& 31) = v) (d : decode cc pc = .ok (.ishr, 1)) (k : VJ G M (pc + 1) lo (.int v :: st)) : VJ G M pc lo (.int y :: .int x :: st) := by
  obtain ⟨sd, E, P, l, p, e, R, s, m, args, below, meth, c⟩ := G
  obtain ⟨hx, hb, hr, hml, hown, hts, hK, hN, hlk, hR⟩ := C
  intro H locs ls hP hD hS hl
  refine lv_ishr hx hb d ?_
  rw [hv]
  exact k H locs ls hP hD hS hl
theorem r_iushr {G : zG} {cc : ByteArray} {own : String} {ret : Option FieldType} {nL fr lc : Nat} (C : zC G cc own ret nL fr lc) {M : zM} {lo : List (Option Value)} {st : List Value} {pc : Nat} {x y v : Int32} (hv : (x.toUInt32 >>> (y.toUInt32 &&& Int32.toUInt32 31)).toInt32 = v) (d : decode cc pc = .ok (.iushr, 1)) (k : VJ G M (pc + 1) lo (.int v :: st)) : VJ G M pc lo (.int y :: .int x :: st) := by
  obtain ⟨sd, E, P, l, p, e, R, s, m, args, below, meth, c⟩ := G
  obtain ⟨hx, hb, hr, hml, hown, hts, hK, hN, hlk, hR⟩ := C
  intro H locs ls hP hD hS hl
  refine lv_iushr hx hb d hv ?_
  exact k H locs ls hP hD hS hl
theorem r_iaddR {G : zG} {cc : ByteArray} {own : String} {ret : Option FieldType} {nL fr lc : Nat} (C : zC G cc own ret nL fr lc) {M : zM} {lo : List (Option Value)} {st : List Value} {pc : Nat} {x y v : Int32} (hv : x + y = v) (d : decode cc pc = .ok (.iadd, 1)) (k : VJ G M (pc + 1) lo (.int v :: st)) : VJ G M pc lo (.int y :: .int x :: st) := by
  obtain ⟨sd, E, P, l, p, e, R, s, m, args, below, meth, c⟩ := G
  obtain ⟨hx, hb, hr, hml, hown, hts, hK, hN, hlk, hR⟩ := C
  intro H locs ls hP hD hS hl
  refine lv_iadd hx hb d ?_
  rw [hv]
  exact k H locs ls hP hD hS hl
theorem r_isubR {G : zG} {cc : ByteArray} {own : String} {ret : Option FieldType} {nL fr lc : Nat} (C : zC G cc own ret nL fr lc) {M : zM} {lo : List (Option Value)} {st : List Value} {pc : Nat} {x y v : Int32} (hv : x - y = v) (d : decode cc pc = .ok (.isub, 1)) (k : VJ G M (pc + 1) lo (.int v :: st)) : VJ G M pc lo (.int y :: .int x :: st) := by
  obtain ⟨sd, E, P, l, p, e, R, s, m, args, below, meth, c⟩ := G
  obtain ⟨hx, hb, hr, hml, hown, hts, hK, hN, hlk, hR⟩ := C
  intro H locs ls hP hD hS hl
  refine lv_isub hx hb d ?_
  rw [hv]
  exact k H locs ls hP hD hS hl
theorem r_imulR {G : zG} {cc : ByteArray} {own : String} {ret : Option FieldType} {nL fr lc : Nat} (C : zC G cc own ret nL fr lc) {M : zM} {lo : List (Option Value)} {st : List Value} {pc : Nat} {x y v : Int32} (hv : x * y = v) (d : decode cc pc = .ok (.imul, 1)) (k : VJ G M (pc + 1) lo (.int v :: st)) : VJ G M pc lo (.int y :: .int x :: st) := by
  obtain ⟨sd, E, P, l, p, e, R, s, m, args, below, meth, c⟩ := G
  obtain ⟨hx, hb, hr, hml, hown, hts, hK, hN, hlk, hR⟩ := C
  intro H locs ls hP hD hS hl
  refine lv_imul hx hb d ?_
  rw [hv]
  exact k H locs ls hP hD hS hl
theorem r_ladd {G : zG} {cc : ByteArray} {own : String} {ret : Option FieldType} {nL fr lc : Nat} (C : zC G cc own ret nL fr lc) {M : zM} {lo : List (Option Value)} {st : List Value} {pc : Nat} {x y : Int64} (d : decode cc pc = .ok (.ladd, 1)) (k : VJ G M (pc + 1) lo (.long (x + y) :: st)) : VJ G M pc lo (.long y :: .long x :: st) := by
  obtain ⟨sd, E, P, l, p, e, R, s, m, args, below, meth, c⟩ := G
  obtain ⟨hx, hb, hr, hml, hown, hts, hK, hN, hlk, hR⟩ := C
  intro H locs ls hP hD hS hl
  refine lv_ladd hx hb d ?_
  exact k H locs ls hP hD hS hl
theorem r_lsub {G : zG} {cc : ByteArray} {own : String} {ret : Option FieldType} {nL fr lc : Nat} (C : zC G cc own ret nL fr lc) {M : zM} {lo : List (Option Value)} {st : List Value} {pc : Nat} {x y : Int64} (d : decode cc pc = .ok (.lsub, 1)) (k : VJ G M (pc + 1) lo (.long (x - y) :: st)) : VJ G M pc lo (.long y :: .long x :: st) := by
  obtain ⟨sd, E, P, l, p, e, R, s, m, args, below, meth, c⟩ := G
  obtain ⟨hx, hb, hr, hml, hown, hts, hK, hN, hlk, hR⟩ := C
  intro H locs ls hP hD hS hl
  refine lv_lsub hx hb d ?_
  exact k H locs ls hP hD hS hl
theorem r_lmul {G : zG} {cc : ByteArray} {own : String} {ret : Option FieldType} {nL fr lc : Nat} (C : zC G cc own ret nL fr lc) {M : zM} {lo : List (Option Value)} {st : List Value} {pc : Nat} {x y : Int64} (d : decode cc pc = .ok (.lmul, 1)) (k : VJ G M (pc + 1) lo (.long (x * y) :: st)) : VJ G M pc lo (.long y :: .long x :: st) := by
  obtain ⟨sd, E, P, l, p, e, R, s, m, args, below, meth, c⟩ := G
  obtain ⟨hx, hb, hr, hml, hown, hts, hK, hN, hlk, hR⟩ := C
  intro H locs ls hP hD hS hl
  refine lv_lmul hx hb d ?_
  exact k H locs ls hP hD hS hl
theorem r_lxor {G : zG} {cc : ByteArray} {own : String} {ret : Option FieldType} {nL fr lc : Nat} (C : zC G cc own ret nL fr lc) {M : zM} {lo : List (Option Value)} {st : List Value} {pc : Nat} {x y : Int64} (d : decode cc pc = .ok (.lxor, 1)) (k : VJ G M (pc + 1) lo (.long (x ^^^ y) :: st)) : VJ G M pc lo (.long y :: .long x :: st) := by
  obtain ⟨sd, E, P, l, p, e, R, s, m, args, below, meth, c⟩ := G
  obtain ⟨hx, hb, hr, hml, hown, hts, hK, hN, hlk, hR⟩ := C
  intro H locs ls hP hD hS hl
  refine lv_lxor hx hb d ?_
  exact k H locs ls hP hD hS hl
theorem r_ldiv {G : zG} {cc : ByteArray} {own : String} {ret : Option FieldType} {nL fr lc : Nat} (C : zC G cc own ret nL fr lc) {M : zM} {lo : List (Option Value)} {st : List Value} {pc : Nat} {x y : Int64} (hy : ¬ y = 0) (d : decode cc pc = .ok (.ldiv, 1)) (k : VJ G M (pc + 1) lo (.long (x / y) :: st)) : VJ G M pc lo (.long y :: .long x :: st) := by
  obtain ⟨sd, E, P, l, p, e, R, s, m, args, below, meth, c⟩ := G
  obtain ⟨hx, hb, hr, hml, hown, hts, hK, hN, hlk, hR⟩ := C
  intro H locs ls hP hD hS hl
  refine lv_ldiv hx hb d hy ?_
  exact k H locs ls hP hD hS hl
theorem r_lrem {G : zG} {cc : ByteArray} {own : String} {ret : Option FieldType} {nL fr lc : Nat} (C : zC G cc own ret nL fr lc) {M : zM} {lo : List (Option Value)} {st : List Value} {pc : Nat} {x y : Int64} (hy : ¬ y = 0) (d : decode cc pc = .ok (.lrem, 1)) (k : VJ G M (pc + 1) lo (.long (x - x / y * y) :: st)) : VJ G M pc lo (.long y :: .long x :: st) := by
  obtain ⟨sd, E, P, l, p, e, R, s, m, args, below, meth, c⟩ := G
  obtain ⟨hx, hb, hr, hml, hown, hts, hK, hN, hlk, hR⟩ := C
  intro H locs ls hP hD hS hl
  refine lv_lrem hx hb d hy ?_
  exact k H locs ls hP hD hS hl
theorem r_lneg {G : zG} {cc : ByteArray} {own : String} {ret : Option FieldType} {nL fr lc : Nat} (C : zC G cc own ret nL fr lc) {M : zM} {lo : List (Option Value)} {st : List Value} {pc : Nat} {x v : Int64} (hv : -x = v) (d : decode cc pc = .ok (.lneg, 1)) (k : VJ G M (pc + 1) lo (.long v :: st)) : VJ G M pc lo (.long x :: st) := by
  obtain ⟨sd, E, P, l, p, e, R, s, m, args, below, meth, c⟩ := G
  obtain ⟨hx, hb, hr, hml, hown, hts, hK, hN, hlk, hR⟩ := C
  intro H locs ls hP hD hS hl
  refine lv_lneg hx hb d ?_
  rw [hv]
  exact k H locs ls hP hD hS hl
theorem r_i2l {G : zG} {cc : ByteArray} {own : String} {ret : Option FieldType} {nL fr lc : Nat} (C : zC G cc own ret nL fr lc) {M : zM} {lo : List (Option Value)} {st : List Value} {pc : Nat} {a : Int} (h : -2147483648 ≤ a ∧ a < 2147483648) (d : decode cc pc = .ok (.i2l, 1)) (k : VJ G M (pc + 1) lo (.long (lI a) :: st)) : VJ G M pc lo (.int (iI a) :: st) := by
  obtain ⟨sd, E, P, l, p, e, R, s, m, args, below, meth, c⟩ := G
  obtain ⟨hx, hb, hr, hml, hown, hts, hK, hN, hlk, hR⟩ := C
  intro H locs ls hP hD hS hl
  refine lv_i2l hx hb d (iI_l h) ?_
  exact k H locs ls hP hD hS hl
theorem r_dup {G : zG} {cc : ByteArray} {own : String} {ret : Option FieldType} {nL fr lc : Nat} (C : zC G cc own ret nL fr lc) {M : zM} {lo : List (Option Value)} {st : List Value} {pc : Nat} {v : Value} (hv : v.category = 1) (d : decode cc pc = .ok (.dup, 1)) (k : VJ G M (pc + 1) lo (v :: v :: st)) : VJ G M pc lo (v :: st) := by
  obtain ⟨sd, E, P, l, p, e, R, s, m, args, below, meth, c⟩ := G
  obtain ⟨hx, hb, hr, hml, hown, hts, hK, hN, hlk, hR⟩ := C
  intro H locs ls hP hD hS hl
  refine lv_dup hx hb d hv ?_
  exact k H locs ls hP hD hS hl
theorem r_pop {G : zG} {cc : ByteArray} {own : String} {ret : Option FieldType} {nL fr lc : Nat} (C : zC G cc own ret nL fr lc) {M : zM} {lo : List (Option Value)} {st : List Value} {pc : Nat} {v : Value} (hv : v.category = 1) (d : decode cc pc = .ok (.pop, 1)) (k : VJ G M (pc + 1) lo (st)) : VJ G M pc lo (v :: st) := by
  obtain ⟨sd, E, P, l, p, e, R, s, m, args, below, meth, c⟩ := G
  obtain ⟨hx, hb, hr, hml, hown, hts, hK, hN, hlk, hR⟩ := C
  intro H locs ls hP hD hS hl
  refine lv_pop hx hb d hv ?_
  exact k H locs ls hP hD hS hl
theorem r_dup2 {G : zG} {cc : ByteArray} {own : String} {ret : Option FieldType} {nL fr lc : Nat} (C : zC G cc own ret nL fr lc) {M : zM} {lo : List (Option Value)} {st : List Value} {pc : Nat} {v w : Value} (hv : v.category = 1) (hw : w.category = 1) (d : decode cc pc = .ok (.dup2, 1)) (k : VJ G M (pc + 1) lo (v :: w :: v :: w :: st)) : VJ G M pc lo (v :: w :: st) := by
  obtain ⟨sd, E, P, l, p, e, R, s, m, args, below, meth, c⟩ := G
  obtain ⟨hx, hb, hr, hml, hown, hts, hK, hN, hlk, hR⟩ := C
  intro H locs ls hP hD hS hl
  refine lv_dup2_11 hx hb d hv hw ?_
  exact k H locs ls hP hD hS hl
theorem r_topi {G : zG} {M : zM} {pc : Nat} {lo : List (Option Value)} {st : List Value} {x y : Int32} (h : x = y) (k : VJ G M pc lo (.int y :: st)) : VJ G M pc lo (.int x :: st) := by
  rw [h]
  exact k
theorem r_topl {G : zG} {M : zM} {pc : Nat} {lo : List (Option Value)} {st : List Value} {x y : Int64} (h : x = y) (k : VJ G M pc lo (.long y :: st)) : VJ G M pc lo (.long x :: st) := by
  rw [h]
  exact k
theorem r_topZ {G : zG} {M : zM} {pc : Nat} {lo : List (Option Value)} {st : List Value} {a b : Int} (h : a = b) (k : VJ G M pc lo (.int (iI b) :: st)) : VJ G M pc lo (.int (iI a) :: st) := by
  rw [h]
  exact k
theorem r_mem {G : zG} {M M2 : zM} {pc : Nat} {lo : List (Option Value)} {st : List Value} (h : M = M2) (k : VJ G M2 pc lo st) : VJ G M pc lo st := by
  rw [h]
  exact k
def lo_le : List (Option Value) → List (Option Value) → Prop
  | [], [] => True
  | a :: l, b :: r => (b = none ∨ a = b) ∧ lo_le l r
  | _, _ => False
theorem lo_le_at : ∀ {l r : List (Option Value)}, lo_le l r → l.length = r.length ∧ ∀ (i : Nat) (v : Value), r[i]? = some (some v) → l[i]? = some (some v)
  | [], [], _ => ⟨rfl, fun i v h => by simp at h⟩
  | [], _ :: _, h => h.elim
  | _ :: _, [], h => h.elim
  | a :: l, b :: r, h => by
    obtain ⟨h1, h2⟩ := h
    obtain ⟨e, f⟩ := lo_le_at h2
    refine ⟨by simp [e], fun i v hi => ?_⟩
    match i, hi with
    | 0, hi =>
      rcases h1 with h1 | h1
      · rw [h1] at hi; cases hi
      · rw [h1]; exact hi
    | i + 1, hi => exact f i v hi
theorem r_weak {G : zG} {M : zM} {pc : Nat} {lo lo2 : List (Option Value)} {st : List Value} (h : lo_le lo lo2) (k : VJ G M pc lo2 st) : VJ G M pc lo st := by
  obtain ⟨sd, E, P, l, p, e, R, s, m, args, below, meth, c⟩ := G
  intro H locs ls hP hD hS hl
  obtain ⟨e1, e2⟩ := lo_le_at h
  exact k H locs ls hP hD hS ⟨hl.1.trans e1, hl.2.1, fun i v hi => hl.2.2 i v (e2 i v hi)⟩
theorem r_ild0 {G : zG} {cc : ByteArray} {own : String} {ret : Option FieldType} {nL fr lc : Nat} (C : zC G cc own ret nL fr lc) {M : zM} {r : List (Option Value)} {st : List Value} {pc : Nat} {x : Int32} (d : decode cc pc = .ok (.iload_n 0, 1)) (k : VJ G M (pc + 1) (some (.int x) :: r) (.int x :: st)) : VJ G M pc (some (.int x) :: r) st := by
  obtain ⟨sd, E, P, l, p, e, R, s, m, args, below, meth, c⟩ := G
  obtain ⟨hx, hb, hr, hml, hown, hts, hK, hN, hlk, hR⟩ := C
  intro H locs ls hP hD hS hl
  refine lv_iload_n hx hb d rfl (hl.2.2 0 _ rfl) ?_
  exact k H locs ls hP hD hS hl
theorem r_ild1 {G : zG} {cc : ByteArray} {own : String} {ret : Option FieldType} {nL fr lc : Nat} (C : zC G cc own ret nL fr lc) {M : zM} {r : List (Option Value)} {st : List Value} {pc : Nat} {a0 : Option Value} {x : Int32} (d : decode cc pc = .ok (.iload_n 1, 1)) (k : VJ G M (pc + 1) (a0 :: some (.int x) :: r) (.int x :: st)) : VJ G M pc (a0 :: some (.int x) :: r) st := by
  obtain ⟨sd, E, P, l, p, e, R, s, m, args, below, meth, c⟩ := G
  obtain ⟨hx, hb, hr, hml, hown, hts, hK, hN, hlk, hR⟩ := C
  intro H locs ls hP hD hS hl
  refine lv_iload_n hx hb d rfl (hl.2.2 1 _ rfl) ?_
  exact k H locs ls hP hD hS hl
theorem r_ild2 {G : zG} {cc : ByteArray} {own : String} {ret : Option FieldType} {nL fr lc : Nat} (C : zC G cc own ret nL fr lc) {M : zM} {r : List (Option Value)} {st : List Value} {pc : Nat} {a0 a1 : Option Value} {x : Int32} (d : decode cc pc = .ok (.iload_n 2, 1)) (k : VJ G M (pc + 1) (a0 :: a1 :: some (.int x) :: r) (.int x :: st)) : VJ G M pc (a0 :: a1 :: some (.int x) :: r) st := by
  obtain ⟨sd, E, P, l, p, e, R, s, m, args, below, meth, c⟩ := G
  obtain ⟨hx, hb, hr, hml, hown, hts, hK, hN, hlk, hR⟩ := C
  intro H locs ls hP hD hS hl
  refine lv_iload_n hx hb d rfl (hl.2.2 2 _ rfl) ?_
  exact k H locs ls hP hD hS hl
theorem r_ild3 {G : zG} {cc : ByteArray} {own : String} {ret : Option FieldType} {nL fr lc : Nat} (C : zC G cc own ret nL fr lc) {M : zM} {r : List (Option Value)} {st : List Value} {pc : Nat} {a0 a1 a2 : Option Value} {x : Int32} (d : decode cc pc = .ok (.iload_n 3, 1)) (k : VJ G M (pc + 1) (a0 :: a1 :: a2 :: some (.int x) :: r) (.int x :: st)) : VJ G M pc (a0 :: a1 :: a2 :: some (.int x) :: r) st := by
  obtain ⟨sd, E, P, l, p, e, R, s, m, args, below, meth, c⟩ := G
  obtain ⟨hx, hb, hr, hml, hown, hts, hK, hN, hlk, hR⟩ := C
  intro H locs ls hP hD hS hl
  refine lv_iload_n hx hb d rfl (hl.2.2 3 _ rfl) ?_
  exact k H locs ls hP hD hS hl
theorem r_ild4 {G : zG} {cc : ByteArray} {own : String} {ret : Option FieldType} {nL fr lc : Nat} (C : zC G cc own ret nL fr lc) {M : zM} {r : List (Option Value)} {st : List Value} {pc : Nat} {a0 a1 a2 a3 : Option Value} {x : Int32} (d : decode cc pc = .ok (.iload 4, 2)) (k : VJ G M (pc + 2) (a0 :: a1 :: a2 :: a3 :: some (.int x) :: r) (.int x :: st)) : VJ G M pc (a0 :: a1 :: a2 :: a3 :: some (.int x) :: r) st := by
  obtain ⟨sd, E, P, l, p, e, R, s, m, args, below, meth, c⟩ := G
  obtain ⟨hx, hb, hr, hml, hown, hts, hK, hN, hlk, hR⟩ := C
  intro H locs ls hP hD hS hl
  refine lv_iload hx hb d (hl.2.2 4 _ rfl) ?_
  exact k H locs ls hP hD hS hl
theorem r_ild5 {G : zG} {cc : ByteArray} {own : String} {ret : Option FieldType} {nL fr lc : Nat} (C : zC G cc own ret nL fr lc) {M : zM} {r : List (Option Value)} {st : List Value} {pc : Nat} {a0 a1 a2 a3 a4 : Option Value} {x : Int32} (d : decode cc pc = .ok (.iload 5, 2)) (k : VJ G M (pc + 2) (a0 :: a1 :: a2 :: a3 :: a4 :: some (.int x) :: r) (.int x :: st)) : VJ G M pc (a0 :: a1 :: a2 :: a3 :: a4 :: some (.int x) :: r) st := by
  obtain ⟨sd, E, P, l, p, e, R, s, m, args, below, meth, c⟩ := G
  obtain ⟨hx, hb, hr, hml, hown, hts, hK, hN, hlk, hR⟩ := C
  intro H locs ls hP hD hS hl
  refine lv_iload hx hb d (hl.2.2 5 _ rfl) ?_
  exact k H locs ls hP hD hS hl
theorem r_ild6 {G : zG} {cc : ByteArray} {own : String} {ret : Option FieldType} {nL fr lc : Nat} (C : zC G cc own ret nL fr lc) {M : zM} {r : List (Option Value)} {st : List Value} {pc : Nat} {a0 a1 a2 a3 a4 a5 : Option Value} {x : Int32} (d : decode cc pc = .ok (.iload 6, 2)) (k : VJ G M (pc + 2) (a0 :: a1 :: a2 :: a3 :: a4 :: a5 :: some (.int x) :: r) (.int x :: st)) : VJ G M pc (a0 :: a1 :: a2 :: a3 :: a4 :: a5 :: some (.int x) :: r) st := by
  obtain ⟨sd, E, P, l, p, e, R, s, m, args, below, meth, c⟩ := G
  obtain ⟨hx, hb, hr, hml, hown, hts, hK, hN, hlk, hR⟩ := C
  intro H locs ls hP hD hS hl
  refine lv_iload hx hb d (hl.2.2 6 _ rfl) ?_
  exact k H locs ls hP hD hS hl
theorem r_ild7 {G : zG} {cc : ByteArray} {own : String} {ret : Option FieldType} {nL fr lc : Nat} (C : zC G cc own ret nL fr lc) {M : zM} {r : List (Option Value)} {st : List Value} {pc : Nat} {a0 a1 a2 a3 a4 a5 a6 : Option Value} {x : Int32} (d : decode cc pc = .ok (.iload 7, 2)) (k : VJ G M (pc + 2) (a0 :: a1 :: a2 :: a3 :: a4 :: a5 :: a6 :: some (.int x) :: r) (.int x :: st)) : VJ G M pc (a0 :: a1 :: a2 :: a3 :: a4 :: a5 :: a6 :: some (.int x) :: r) st := by
  obtain ⟨sd, E, P, l, p, e, R, s, m, args, below, meth, c⟩ := G
  obtain ⟨hx, hb, hr, hml, hown, hts, hK, hN, hlk, hR⟩ := C
  intro H locs ls hP hD hS hl
  refine lv_iload hx hb d (hl.2.2 7 _ rfl) ?_
  exact k H locs ls hP hD hS hl
theorem r_ild8 {G : zG} {cc : ByteArray} {own : String} {ret : Option FieldType} {nL fr lc : Nat} (C : zC G cc own ret nL fr lc) {M : zM} {r : List (Option Value)} {st : List Value} {pc : Nat} {a0 a1 a2 a3 a4 a5 a6 a7 : Option Value} {x : Int32} (d : decode cc pc = .ok (.iload 8, 2)) (k : VJ G M (pc + 2) (a0 :: a1 :: a2 :: a3 :: a4 :: a5 :: a6 :: a7 :: some (.int x) :: r) (.int x :: st)) : VJ G M pc (a0 :: a1 :: a2 :: a3 :: a4 :: a5 :: a6 :: a7 :: some (.int x) :: r) st := by
  obtain ⟨sd, E, P, l, p, e, R, s, m, args, below, meth, c⟩ := G
  obtain ⟨hx, hb, hr, hml, hown, hts, hK, hN, hlk, hR⟩ := C
  intro H locs ls hP hD hS hl
  refine lv_iload hx hb d (hl.2.2 8 _ rfl) ?_
  exact k H locs ls hP hD hS hl
theorem r_ild9 {G : zG} {cc : ByteArray} {own : String} {ret : Option FieldType} {nL fr lc : Nat} (C : zC G cc own ret nL fr lc) {M : zM} {r : List (Option Value)} {st : List Value} {pc : Nat} {a0 a1 a2 a3 a4 a5 a6 a7 a8 : Option Value} {x : Int32} (d : decode cc pc = .ok (.iload 9, 2)) (k : VJ G M (pc + 2) (a0 :: a1 :: a2 :: a3 :: a4 :: a5 :: a6 :: a7 :: a8 :: some (.int x) :: r) (.int x :: st)) : VJ G M pc (a0 :: a1 :: a2 :: a3 :: a4 :: a5 :: a6 :: a7 :: a8 :: some (.int x) :: r) st := by
  obtain ⟨sd, E, P, l, p, e, R, s, m, args, below, meth, c⟩ := G
  obtain ⟨hx, hb, hr, hml, hown, hts, hK, hN, hlk, hR⟩ := C
  intro H locs ls hP hD hS hl
  refine lv_iload hx hb d (hl.2.2 9 _ rfl) ?_
  exact k H locs ls hP hD hS hl
theorem r_ild10 {G : zG} {cc : ByteArray} {own : String} {ret : Option FieldType} {nL fr lc : Nat} (C : zC G cc own ret nL fr lc) {M : zM} {r : List (Option Value)} {st : List Value} {pc : Nat} {a0 a1 a2 a3 a4 a5 a6 a7 a8 a9 : Option Value} {x : Int32} (d : decode cc pc = .ok (.iload 10, 2)) (k : VJ G M (pc + 2) (a0 :: a1 :: a2 :: a3 :: a4 :: a5 :: a6 :: a7 :: a8 :: a9 :: some (.int x) :: r) (.int x :: st)) : VJ G M pc (a0 :: a1 :: a2 :: a3 :: a4 :: a5 :: a6 :: a7 :: a8 :: a9 :: some (.int x) :: r) st := by
  obtain ⟨sd, E, P, l, p, e, R, s, m, args, below, meth, c⟩ := G
  obtain ⟨hx, hb, hr, hml, hown, hts, hK, hN, hlk, hR⟩ := C
  intro H locs ls hP hD hS hl
  refine lv_iload hx hb d (hl.2.2 10 _ rfl) ?_
  exact k H locs ls hP hD hS hl
theorem r_ild11 {G : zG} {cc : ByteArray} {own : String} {ret : Option FieldType} {nL fr lc : Nat} (C : zC G cc own ret nL fr lc) {M : zM} {r : List (Option Value)} {st : List Value} {pc : Nat} {a0 a1 a2 a3 a4 a5 a6 a7 a8 a9 a10 : Option Value} {x : Int32} (d : decode cc pc = .ok (.iload 11, 2)) (k : VJ G M (pc + 2) (a0 :: a1 :: a2 :: a3 :: a4 :: a5 :: a6 :: a7 :: a8 :: a9 :: a10 :: some (.int x) :: r) (.int x :: st)) : VJ G M pc (a0 :: a1 :: a2 :: a3 :: a4 :: a5 :: a6 :: a7 :: a8 :: a9 :: a10 :: some (.int x) :: r) st := by
  obtain ⟨sd, E, P, l, p, e, R, s, m, args, below, meth, c⟩ := G
  obtain ⟨hx, hb, hr, hml, hown, hts, hK, hN, hlk, hR⟩ := C
  intro H locs ls hP hD hS hl
  refine lv_iload hx hb d (hl.2.2 11 _ rfl) ?_
  exact k H locs ls hP hD hS hl
theorem r_ild12 {G : zG} {cc : ByteArray} {own : String} {ret : Option FieldType} {nL fr lc : Nat} (C : zC G cc own ret nL fr lc) {M : zM} {r : List (Option Value)} {st : List Value} {pc : Nat} {a0 a1 a2 a3 a4 a5 a6 a7 a8 a9 a10 a11 : Option Value} {x : Int32} (d : decode cc pc = .ok (.iload 12, 2)) (k : VJ G M (pc + 2) (a0 :: a1 :: a2 :: a3 :: a4 :: a5 :: a6 :: a7 :: a8 :: a9 :: a10 :: a11 :: some (.int x) :: r) (.int x :: st)) : VJ G M pc (a0 :: a1 :: a2 :: a3 :: a4 :: a5 :: a6 :: a7 :: a8 :: a9 :: a10 :: a11 :: some (.int x) :: r) st := by
  obtain ⟨sd, E, P, l, p, e, R, s, m, args, below, meth, c⟩ := G
  obtain ⟨hx, hb, hr, hml, hown, hts, hK, hN, hlk, hR⟩ := C
  intro H locs ls hP hD hS hl
  refine lv_iload hx hb d (hl.2.2 12 _ rfl) ?_
  exact k H locs ls hP hD hS hl
theorem r_ild13 {G : zG} {cc : ByteArray} {own : String} {ret : Option FieldType} {nL fr lc : Nat} (C : zC G cc own ret nL fr lc) {M : zM} {r : List (Option Value)} {st : List Value} {pc : Nat} {a0 a1 a2 a3 a4 a5 a6 a7 a8 a9 a10 a11 a12 : Option Value} {x : Int32} (d : decode cc pc = .ok (.iload 13, 2)) (k : VJ G M (pc + 2) (a0 :: a1 :: a2 :: a3 :: a4 :: a5 :: a6 :: a7 :: a8 :: a9 :: a10 :: a11 :: a12 :: some (.int x) :: r) (.int x :: st)) : VJ G M pc (a0 :: a1 :: a2 :: a3 :: a4 :: a5 :: a6 :: a7 :: a8 :: a9 :: a10 :: a11 :: a12 :: some (.int x) :: r) st := by
  obtain ⟨sd, E, P, l, p, e, R, s, m, args, below, meth, c⟩ := G
  obtain ⟨hx, hb, hr, hml, hown, hts, hK, hN, hlk, hR⟩ := C
  intro H locs ls hP hD hS hl
  refine lv_iload hx hb d (hl.2.2 13 _ rfl) ?_
  exact k H locs ls hP hD hS hl
theorem r_ild14 {G : zG} {cc : ByteArray} {own : String} {ret : Option FieldType} {nL fr lc : Nat} (C : zC G cc own ret nL fr lc) {M : zM} {r : List (Option Value)} {st : List Value} {pc : Nat} {a0 a1 a2 a3 a4 a5 a6 a7 a8 a9 a10 a11 a12 a13 : Option Value} {x : Int32} (d : decode cc pc = .ok (.iload 14, 2)) (k : VJ G M (pc + 2) (a0 :: a1 :: a2 :: a3 :: a4 :: a5 :: a6 :: a7 :: a8 :: a9 :: a10 :: a11 :: a12 :: a13 :: some (.int x) :: r) (.int x :: st)) : VJ G M pc (a0 :: a1 :: a2 :: a3 :: a4 :: a5 :: a6 :: a7 :: a8 :: a9 :: a10 :: a11 :: a12 :: a13 :: some (.int x) :: r) st := by
  obtain ⟨sd, E, P, l, p, e, R, s, m, args, below, meth, c⟩ := G
  obtain ⟨hx, hb, hr, hml, hown, hts, hK, hN, hlk, hR⟩ := C
  intro H locs ls hP hD hS hl
  refine lv_iload hx hb d (hl.2.2 14 _ rfl) ?_
  exact k H locs ls hP hD hS hl
theorem r_ild15 {G : zG} {cc : ByteArray} {own : String} {ret : Option FieldType} {nL fr lc : Nat} (C : zC G cc own ret nL fr lc) {M : zM} {r : List (Option Value)} {st : List Value} {pc : Nat} {a0 a1 a2 a3 a4 a5 a6 a7 a8 a9 a10 a11 a12 a13 a14 : Option Value} {x : Int32} (d : decode cc pc = .ok (.iload 15, 2)) (k : VJ G M (pc + 2) (a0 :: a1 :: a2 :: a3 :: a4 :: a5 :: a6 :: a7 :: a8 :: a9 :: a10 :: a11 :: a12 :: a13 :: a14 :: some (.int x) :: r) (.int x :: st)) : VJ G M pc (a0 :: a1 :: a2 :: a3 :: a4 :: a5 :: a6 :: a7 :: a8 :: a9 :: a10 :: a11 :: a12 :: a13 :: a14 :: some (.int x) :: r) st := by
  obtain ⟨sd, E, P, l, p, e, R, s, m, args, below, meth, c⟩ := G
  obtain ⟨hx, hb, hr, hml, hown, hts, hK, hN, hlk, hR⟩ := C
  intro H locs ls hP hD hS hl
  refine lv_iload hx hb d (hl.2.2 15 _ rfl) ?_
  exact k H locs ls hP hD hS hl
theorem r_ild16 {G : zG} {cc : ByteArray} {own : String} {ret : Option FieldType} {nL fr lc : Nat} (C : zC G cc own ret nL fr lc) {M : zM} {r : List (Option Value)} {st : List Value} {pc : Nat} {a0 a1 a2 a3 a4 a5 a6 a7 a8 a9 a10 a11 a12 a13 a14 a15 : Option Value} {x : Int32} (d : decode cc pc = .ok (.iload 16, 2)) (k : VJ G M (pc + 2) (a0 :: a1 :: a2 :: a3 :: a4 :: a5 :: a6 :: a7 :: a8 :: a9 :: a10 :: a11 :: a12 :: a13 :: a14 :: a15 :: some (.int x) :: r) (.int x :: st)) : VJ G M pc (a0 :: a1 :: a2 :: a3 :: a4 :: a5 :: a6 :: a7 :: a8 :: a9 :: a10 :: a11 :: a12 :: a13 :: a14 :: a15 :: some (.int x) :: r) st := by
  obtain ⟨sd, E, P, l, p, e, R, s, m, args, below, meth, c⟩ := G
  obtain ⟨hx, hb, hr, hml, hown, hts, hK, hN, hlk, hR⟩ := C
  intro H locs ls hP hD hS hl
  refine lv_iload hx hb d (hl.2.2 16 _ rfl) ?_
  exact k H locs ls hP hD hS hl
theorem r_ild17 {G : zG} {cc : ByteArray} {own : String} {ret : Option FieldType} {nL fr lc : Nat} (C : zC G cc own ret nL fr lc) {M : zM} {r : List (Option Value)} {st : List Value} {pc : Nat} {a0 a1 a2 a3 a4 a5 a6 a7 a8 a9 a10 a11 a12 a13 a14 a15 a16 : Option Value} {x : Int32} (d : decode cc pc = .ok (.iload 17, 2)) (k : VJ G M (pc + 2) (a0 :: a1 :: a2 :: a3 :: a4 :: a5 :: a6 :: a7 :: a8 :: a9 :: a10 :: a11 :: a12 :: a13 :: a14 :: a15 :: a16 :: some (.int x) :: r) (.int x :: st)) : VJ G M pc (a0 :: a1 :: a2 :: a3 :: a4 :: a5 :: a6 :: a7 :: a8 :: a9 :: a10 :: a11 :: a12 :: a13 :: a14 :: a15 :: a16 :: some (.int x) :: r) st := by
  obtain ⟨sd, E, P, l, p, e, R, s, m, args, below, meth, c⟩ := G
  obtain ⟨hx, hb, hr, hml, hown, hts, hK, hN, hlk, hR⟩ := C
  intro H locs ls hP hD hS hl
  refine lv_iload hx hb d (hl.2.2 17 _ rfl) ?_
  exact k H locs ls hP hD hS hl
theorem r_ild18 {G : zG} {cc : ByteArray} {own : String} {ret : Option FieldType} {nL fr lc : Nat} (C : zC G cc own ret nL fr lc) {M : zM} {r : List (Option Value)} {st : List Value} {pc : Nat} {a0 a1 a2 a3 a4 a5 a6 a7 a8 a9 a10 a11 a12 a13 a14 a15 a16 a17 : Option Value} {x : Int32} (d : decode cc pc = .ok (.iload 18, 2)) (k : VJ G M (pc + 2) (a0 :: a1 :: a2 :: a3 :: a4 :: a5 :: a6 :: a7 :: a8 :: a9 :: a10 :: a11 :: a12 :: a13 :: a14 :: a15 :: a16 :: a17 :: some (.int x) :: r) (.int x :: st)) : VJ G M pc (a0 :: a1 :: a2 :: a3 :: a4 :: a5 :: a6 :: a7 :: a8 :: a9 :: a10 :: a11 :: a12 :: a13 :: a14 :: a15 :: a16 :: a17 :: some (.int x) :: r) st := by
  obtain ⟨sd, E, P, l, p, e, R, s, m, args, below, meth, c⟩ := G
  obtain ⟨hx, hb, hr, hml, hown, hts, hK, hN, hlk, hR⟩ := C
  intro H locs ls hP hD hS hl
  refine lv_iload hx hb d (hl.2.2 18 _ rfl) ?_
  exact k H locs ls hP hD hS hl
theorem r_ild19 {G : zG} {cc : ByteArray} {own : String} {ret : Option FieldType} {nL fr lc : Nat} (C : zC G cc own ret nL fr lc) {M : zM} {r : List (Option Value)} {st : List Value} {pc : Nat} {a0 a1 a2 a3 a4 a5 a6 a7 a8 a9 a10 a11 a12 a13 a14 a15 a16 a17 a18 : Option Value} {x : Int32} (d : decode cc pc = .ok (.iload 19, 2)) (k : VJ G M (pc + 2) (a0 :: a1 :: a2 :: a3 :: a4 :: a5 :: a6 :: a7 :: a8 :: a9 :: a10 :: a11 :: a12 :: a13 :: a14 :: a15 :: a16 :: a17 :: a18 :: some (.int x) :: r) (.int x :: st)) : VJ G M pc (a0 :: a1 :: a2 :: a3 :: a4 :: a5 :: a6 :: a7 :: a8 :: a9 :: a10 :: a11 :: a12 :: a13 :: a14 :: a15 :: a16 :: a17 :: a18 :: some (.int x) :: r) st := by
  obtain ⟨sd, E, P, l, p, e, R, s, m, args, below, meth, c⟩ := G
  obtain ⟨hx, hb, hr, hml, hown, hts, hK, hN, hlk, hR⟩ := C
  intro H locs ls hP hD hS hl
  refine lv_iload hx hb d (hl.2.2 19 _ rfl) ?_
  exact k H locs ls hP hD hS hl
theorem r_ild20 {G : zG} {cc : ByteArray} {own : String} {ret : Option FieldType} {nL fr lc : Nat} (C : zC G cc own ret nL fr lc) {M : zM} {r : List (Option Value)} {st : List Value} {pc : Nat} {a0 a1 a2 a3 a4 a5 a6 a7 a8 a9 a10 a11 a12 a13 a14 a15 a16 a17 a18 a19 : Option Value} {x : Int32} (d : decode cc pc = .ok (.iload 20, 2)) (k : VJ G M (pc + 2) (a0 :: a1 :: a2 :: a3 :: a4 :: a5 :: a6 :: a7 :: a8 :: a9 :: a10 :: a11 :: a12 :: a13 :: a14 :: a15 :: a16 :: a17 :: a18 :: a19 :: some (.int x) :: r) (.int x :: st)) : VJ G M pc (a0 :: a1 :: a2 :: a3 :: a4 :: a5 :: a6 :: a7 :: a8 :: a9 :: a10 :: a11 :: a12 :: a13 :: a14 :: a15 :: a16 :: a17 :: a18 :: a19 :: some (.int x) :: r) st := by
  obtain ⟨sd, E, P, l, p, e, R, s, m, args, below, meth, c⟩ := G
  obtain ⟨hx, hb, hr, hml, hown, hts, hK, hN, hlk, hR⟩ := C
  intro H locs ls hP hD hS hl
  refine lv_iload hx hb d (hl.2.2 20 _ rfl) ?_
  exact k H locs ls hP hD hS hl
theorem r_ild21 {G : zG} {cc : ByteArray} {own : String} {ret : Option FieldType} {nL fr lc : Nat} (C : zC G cc own ret nL fr lc) {M : zM} {r : List (Option Value)} {st : List Value} {pc : Nat} {a0 a1 a2 a3 a4 a5 a6 a7 a8 a9 a10 a11 a12 a13 a14 a15 a16 a17 a18 a19 a20 : Option Value} {x : Int32} (d : decode cc pc = .ok (.iload 21, 2)) (k : VJ G M (pc + 2) (a0 :: a1 :: a2 :: a3 :: a4 :: a5 :: a6 :: a7 :: a8 :: a9 :: a10 :: a11 :: a12 :: a13 :: a14 :: a15 :: a16 :: a17 :: a18 :: a19 :: a20 :: some (.int x) :: r) (.int x :: st)) : VJ G M pc (a0 :: a1 :: a2 :: a3 :: a4 :: a5 :: a6 :: a7 :: a8 :: a9 :: a10 :: a11 :: a12 :: a13 :: a14 :: a15 :: a16 :: a17 :: a18 :: a19 :: a20 :: some (.int x) :: r) st := by
  obtain ⟨sd, E, P, l, p, e, R, s, m, args, below, meth, c⟩ := G
  obtain ⟨hx, hb, hr, hml, hown, hts, hK, hN, hlk, hR⟩ := C
  intro H locs ls hP hD hS hl
  refine lv_iload hx hb d (hl.2.2 21 _ rfl) ?_
  exact k H locs ls hP hD hS hl
theorem r_lld0 {G : zG} {cc : ByteArray} {own : String} {ret : Option FieldType} {nL fr lc : Nat} (C : zC G cc own ret nL fr lc) {M : zM} {r : List (Option Value)} {st : List Value} {pc : Nat} {x : Int64} (d : decode cc pc = .ok (.lload_n 0, 1)) (k : VJ G M (pc + 1) (some (.long x) :: r) (.long x :: st)) : VJ G M pc (some (.long x) :: r) st := by
  obtain ⟨sd, E, P, l, p, e, R, s, m, args, below, meth, c⟩ := G
  obtain ⟨hx, hb, hr, hml, hown, hts, hK, hN, hlk, hR⟩ := C
  intro H locs ls hP hD hS hl
  refine lv_lload_n hx hb d rfl (hl.2.2 0 _ rfl) ?_
  exact k H locs ls hP hD hS hl
theorem r_lld1 {G : zG} {cc : ByteArray} {own : String} {ret : Option FieldType} {nL fr lc : Nat} (C : zC G cc own ret nL fr lc) {M : zM} {r : List (Option Value)} {st : List Value} {pc : Nat} {a0 : Option Value} {x : Int64} (d : decode cc pc = .ok (.lload_n 1, 1)) (k : VJ G M (pc + 1) (a0 :: some (.long x) :: r) (.long x :: st)) : VJ G M pc (a0 :: some (.long x) :: r) st := by
  obtain ⟨sd, E, P, l, p, e, R, s, m, args, below, meth, c⟩ := G
  obtain ⟨hx, hb, hr, hml, hown, hts, hK, hN, hlk, hR⟩ := C
  intro H locs ls hP hD hS hl
  refine lv_lload_n hx hb d rfl (hl.2.2 1 _ rfl) ?_
  exact k H locs ls hP hD hS hl
theorem r_lld2 {G : zG} {cc : ByteArray} {own : String} {ret : Option FieldType} {nL fr lc : Nat} (C : zC G cc own ret nL fr lc) {M : zM} {r : List (Option Value)} {st : List Value} {pc : Nat} {a0 a1 : Option Value} {x : Int64} (d : decode cc pc = .ok (.lload_n 2, 1)) (k : VJ G M (pc + 1) (a0 :: a1 :: some (.long x) :: r) (.long x :: st)) : VJ G M pc (a0 :: a1 :: some (.long x) :: r) st := by
  obtain ⟨sd, E, P, l, p, e, R, s, m, args, below, meth, c⟩ := G
  obtain ⟨hx, hb, hr, hml, hown, hts, hK, hN, hlk, hR⟩ := C
  intro H locs ls hP hD hS hl
  refine lv_lload_n hx hb d rfl (hl.2.2 2 _ rfl) ?_
  exact k H locs ls hP hD hS hl
theorem r_lld3 {G : zG} {cc : ByteArray} {own : String} {ret : Option FieldType} {nL fr lc : Nat} (C : zC G cc own ret nL fr lc) {M : zM} {r : List (Option Value)} {st : List Value} {pc : Nat} {a0 a1 a2 : Option Value} {x : Int64} (d : decode cc pc = .ok (.lload_n 3, 1)) (k : VJ G M (pc + 1) (a0 :: a1 :: a2 :: some (.long x) :: r) (.long x :: st)) : VJ G M pc (a0 :: a1 :: a2 :: some (.long x) :: r) st := by
  obtain ⟨sd, E, P, l, p, e, R, s, m, args, below, meth, c⟩ := G
  obtain ⟨hx, hb, hr, hml, hown, hts, hK, hN, hlk, hR⟩ := C
  intro H locs ls hP hD hS hl
  refine lv_lload_n hx hb d rfl (hl.2.2 3 _ rfl) ?_
  exact k H locs ls hP hD hS hl
theorem r_lld4 {G : zG} {cc : ByteArray} {own : String} {ret : Option FieldType} {nL fr lc : Nat} (C : zC G cc own ret nL fr lc) {M : zM} {r : List (Option Value)} {st : List Value} {pc : Nat} {a0 a1 a2 a3 : Option Value} {x : Int64} (d : decode cc pc = .ok (.lload 4, 2)) (k : VJ G M (pc + 2) (a0 :: a1 :: a2 :: a3 :: some (.long x) :: r) (.long x :: st)) : VJ G M pc (a0 :: a1 :: a2 :: a3 :: some (.long x) :: r) st := by
  obtain ⟨sd, E, P, l, p, e, R, s, m, args, below, meth, c⟩ := G
  obtain ⟨hx, hb, hr, hml, hown, hts, hK, hN, hlk, hR⟩ := C
  intro H locs ls hP hD hS hl
  refine lv_lload hx hb d (hl.2.2 4 _ rfl) ?_
  exact k H locs ls hP hD hS hl
theorem r_lld5 {G : zG} {cc : ByteArray} {own : String} {ret : Option FieldType} {nL fr lc : Nat} (C : zC G cc own ret nL fr lc) {M : zM} {r : List (Option Value)} {st : List Value} {pc : Nat} {a0 a1 a2 a3 a4 : Option Value} {x : Int64} (d : decode cc pc = .ok (.lload 5, 2)) (k : VJ G M (pc + 2) (a0 :: a1 :: a2 :: a3 :: a4 :: some (.long x) :: r) (.long x :: st)) : VJ G M pc (a0 :: a1 :: a2 :: a3 :: a4 :: some (.long x) :: r) st := by
  obtain ⟨sd, E, P, l, p, e, R, s, m, args, below, meth, c⟩ := G
  obtain ⟨hx, hb, hr, hml, hown, hts, hK, hN, hlk, hR⟩ := C
  intro H locs ls hP hD hS hl
  refine lv_lload hx hb d (hl.2.2 5 _ rfl) ?_
  exact k H locs ls hP hD hS hl
theorem r_lld6 {G : zG} {cc : ByteArray} {own : String} {ret : Option FieldType} {nL fr lc : Nat} (C : zC G cc own ret nL fr lc) {M : zM} {r : List (Option Value)} {st : List Value} {pc : Nat} {a0 a1 a2 a3 a4 a5 : Option Value} {x : Int64} (d : decode cc pc = .ok (.lload 6, 2)) (k : VJ G M (pc + 2) (a0 :: a1 :: a2 :: a3 :: a4 :: a5 :: some (.long x) :: r) (.long x :: st)) : VJ G M pc (a0 :: a1 :: a2 :: a3 :: a4 :: a5 :: some (.long x) :: r) st := by
  obtain ⟨sd, E, P, l, p, e, R, s, m, args, below, meth, c⟩ := G
  obtain ⟨hx, hb, hr, hml, hown, hts, hK, hN, hlk, hR⟩ := C
  intro H locs ls hP hD hS hl
  refine lv_lload hx hb d (hl.2.2 6 _ rfl) ?_
  exact k H locs ls hP hD hS hl
theorem r_lld7 {G : zG} {cc : ByteArray} {own : String} {ret : Option FieldType} {nL fr lc : Nat} (C : zC G cc own ret nL fr lc) {M : zM} {r : List (Option Value)} {st : List Value} {pc : Nat} {a0 a1 a2 a3 a4 a5 a6 : Option Value} {x : Int64} (d : decode cc pc = .ok (.lload 7, 2)) (k : VJ G M (pc + 2) (a0 :: a1 :: a2 :: a3 :: a4 :: a5 :: a6 :: some (.long x) :: r) (.long x :: st)) : VJ G M pc (a0 :: a1 :: a2 :: a3 :: a4 :: a5 :: a6 :: some (.long x) :: r) st := by
  obtain ⟨sd, E, P, l, p, e, R, s, m, args, below, meth, c⟩ := G
  obtain ⟨hx, hb, hr, hml, hown, hts, hK, hN, hlk, hR⟩ := C
  intro H locs ls hP hD hS hl
  refine lv_lload hx hb d (hl.2.2 7 _ rfl) ?_
  exact k H locs ls hP hD hS hl
theorem r_lld8 {G : zG} {cc : ByteArray} {own : String} {ret : Option FieldType} {nL fr lc : Nat} (C : zC G cc own ret nL fr lc) {M : zM} {r : List (Option Value)} {st : List Value} {pc : Nat} {a0 a1 a2 a3 a4 a5 a6 a7 : Option Value} {x : Int64} (d : decode cc pc = .ok (.lload 8, 2)) (k : VJ G M (pc + 2) (a0 :: a1 :: a2 :: a3 :: a4 :: a5 :: a6 :: a7 :: some (.long x) :: r) (.long x :: st)) : VJ G M pc (a0 :: a1 :: a2 :: a3 :: a4 :: a5 :: a6 :: a7 :: some (.long x) :: r) st := by
  obtain ⟨sd, E, P, l, p, e, R, s, m, args, below, meth, c⟩ := G
  obtain ⟨hx, hb, hr, hml, hown, hts, hK, hN, hlk, hR⟩ := C
  intro H locs ls hP hD hS hl
  refine lv_lload hx hb d (hl.2.2 8 _ rfl) ?_
  exact k H locs ls hP hD hS hl
theorem r_lld9 {G : zG} {cc : ByteArray} {own : String} {ret : Option FieldType} {nL fr lc : Nat} (C : zC G cc own ret nL fr lc) {M : zM} {r : List (Option Value)} {st : List Value} {pc : Nat} {a0 a1 a2 a3 a4 a5 a6 a7 a8 : Option Value} {x : Int64} (d : decode cc pc = .ok (.lload 9, 2)) (k : VJ G M (pc + 2) (a0 :: a1 :: a2 :: a3 :: a4 :: a5 :: a6 :: a7 :: a8 :: some (.long x) :: r) (.long x :: st)) : VJ G M pc (a0 :: a1 :: a2 :: a3 :: a4 :: a5 :: a6 :: a7 :: a8 :: some (.long x) :: r) st := by
  obtain ⟨sd, E, P, l, p, e, R, s, m, args, below, meth, c⟩ := G
  obtain ⟨hx, hb, hr, hml, hown, hts, hK, hN, hlk, hR⟩ := C
  intro H locs ls hP hD hS hl
  refine lv_lload hx hb d (hl.2.2 9 _ rfl) ?_
  exact k H locs ls hP hD hS hl
theorem r_lld10 {G : zG} {cc : ByteArray} {own : String} {ret : Option FieldType} {nL fr lc : Nat} (C : zC G cc own ret nL fr lc) {M : zM} {r : List (Option Value)} {st : List Value} {pc : Nat} {a0 a1 a2 a3 a4 a5 a6 a7 a8 a9 : Option Value} {x : Int64} (d : decode cc pc = .ok (.lload 10, 2)) (k : VJ G M (pc + 2) (a0 :: a1 :: a2 :: a3 :: a4 :: a5 :: a6 :: a7 :: a8 :: a9 :: some (.long x) :: r) (.long x :: st)) : VJ G M pc (a0 :: a1 :: a2 :: a3 :: a4 :: a5 :: a6 :: a7 :: a8 :: a9 :: some (.long x) :: r) st := by
  obtain ⟨sd, E, P, l, p, e, R, s, m, args, below, meth, c⟩ := G
  obtain ⟨hx, hb, hr, hml, hown, hts, hK, hN, hlk, hR⟩ := C
  intro H locs ls hP hD hS hl
  refine lv_lload hx hb d (hl.2.2 10 _ rfl) ?_
  exact k H locs ls hP hD hS hl
theorem r_lld11 {G : zG} {cc : ByteArray} {own : String} {ret : Option FieldType} {nL fr lc : Nat} (C : zC G cc own ret nL fr lc) {M : zM} {r : List (Option Value)} {st : List Value} {pc : Nat} {a0 a1 a2 a3 a4 a5 a6 a7 a8 a9 a10 : Option Value} {x : Int64} (d : decode cc pc = .ok (.lload 11, 2)) (k : VJ G M (pc + 2) (a0 :: a1 :: a2 :: a3 :: a4 :: a5 :: a6 :: a7 :: a8 :: a9 :: a10 :: some (.long x) :: r) (.long x :: st)) : VJ G M pc (a0 :: a1 :: a2 :: a3 :: a4 :: a5 :: a6 :: a7 :: a8 :: a9 :: a10 :: some (.long x) :: r) st := by
  obtain ⟨sd, E, P, l, p, e, R, s, m, args, below, meth, c⟩ := G
  obtain ⟨hx, hb, hr, hml, hown, hts, hK, hN, hlk, hR⟩ := C
  intro H locs ls hP hD hS hl
  refine lv_lload hx hb d (hl.2.2 11 _ rfl) ?_
  exact k H locs ls hP hD hS hl
theorem r_lld12 {G : zG} {cc : ByteArray} {own : String} {ret : Option FieldType} {nL fr lc : Nat} (C : zC G cc own ret nL fr lc) {M : zM} {r : List (Option Value)} {st : List Value} {pc : Nat} {a0 a1 a2 a3 a4 a5 a6 a7 a8 a9 a10 a11 : Option Value} {x : Int64} (d : decode cc pc = .ok (.lload 12, 2)) (k : VJ G M (pc + 2) (a0 :: a1 :: a2 :: a3 :: a4 :: a5 :: a6 :: a7 :: a8 :: a9 :: a10 :: a11 :: some (.long x) :: r) (.long x :: st)) : VJ G M pc (a0 :: a1 :: a2 :: a3 :: a4 :: a5 :: a6 :: a7 :: a8 :: a9 :: a10 :: a11 :: some (.long x) :: r) st := by
  obtain ⟨sd, E, P, l, p, e, R, s, m, args, below, meth, c⟩ := G
  obtain ⟨hx, hb, hr, hml, hown, hts, hK, hN, hlk, hR⟩ := C
  intro H locs ls hP hD hS hl
  refine lv_lload hx hb d (hl.2.2 12 _ rfl) ?_
  exact k H locs ls hP hD hS hl
theorem r_lld13 {G : zG} {cc : ByteArray} {own : String} {ret : Option FieldType} {nL fr lc : Nat} (C : zC G cc own ret nL fr lc) {M : zM} {r : List (Option Value)} {st : List Value} {pc : Nat} {a0 a1 a2 a3 a4 a5 a6 a7 a8 a9 a10 a11 a12 : Option Value} {x : Int64} (d : decode cc pc = .ok (.lload 13, 2)) (k : VJ G M (pc + 2) (a0 :: a1 :: a2 :: a3 :: a4 :: a5 :: a6 :: a7 :: a8 :: a9 :: a10 :: a11 :: a12 :: some (.long x) :: r) (.long x :: st)) : VJ G M pc (a0 :: a1 :: a2 :: a3 :: a4 :: a5 :: a6 :: a7 :: a8 :: a9 :: a10 :: a11 :: a12 :: some (.long x) :: r) st := by
  obtain ⟨sd, E, P, l, p, e, R, s, m, args, below, meth, c⟩ := G
  obtain ⟨hx, hb, hr, hml, hown, hts, hK, hN, hlk, hR⟩ := C
  intro H locs ls hP hD hS hl
  refine lv_lload hx hb d (hl.2.2 13 _ rfl) ?_
  exact k H locs ls hP hD hS hl
theorem r_lld14 {G : zG} {cc : ByteArray} {own : String} {ret : Option FieldType} {nL fr lc : Nat} (C : zC G cc own ret nL fr lc) {M : zM} {r : List (Option Value)} {st : List Value} {pc : Nat} {a0 a1 a2 a3 a4 a5 a6 a7 a8 a9 a10 a11 a12 a13 : Option Value} {x : Int64} (d : decode cc pc = .ok (.lload 14, 2)) (k : VJ G M (pc + 2) (a0 :: a1 :: a2 :: a3 :: a4 :: a5 :: a6 :: a7 :: a8 :: a9 :: a10 :: a11 :: a12 :: a13 :: some (.long x) :: r) (.long x :: st)) : VJ G M pc (a0 :: a1 :: a2 :: a3 :: a4 :: a5 :: a6 :: a7 :: a8 :: a9 :: a10 :: a11 :: a12 :: a13 :: some (.long x) :: r) st := by
  obtain ⟨sd, E, P, l, p, e, R, s, m, args, below, meth, c⟩ := G
  obtain ⟨hx, hb, hr, hml, hown, hts, hK, hN, hlk, hR⟩ := C
  intro H locs ls hP hD hS hl
  refine lv_lload hx hb d (hl.2.2 14 _ rfl) ?_
  exact k H locs ls hP hD hS hl
theorem r_lld15 {G : zG} {cc : ByteArray} {own : String} {ret : Option FieldType} {nL fr lc : Nat} (C : zC G cc own ret nL fr lc) {M : zM} {r : List (Option Value)} {st : List Value} {pc : Nat} {a0 a1 a2 a3 a4 a5 a6 a7 a8 a9 a10 a11 a12 a13 a14 : Option Value} {x : Int64} (d : decode cc pc = .ok (.lload 15, 2)) (k : VJ G M (pc + 2) (a0 :: a1 :: a2 :: a3 :: a4 :: a5 :: a6 :: a7 :: a8 :: a9 :: a10 :: a11 :: a12 :: a13 :: a14 :: some (.long x) :: r) (.long x :: st)) : VJ G M pc (a0 :: a1 :: a2 :: a3 :: a4 :: a5 :: a6 :: a7 :: a8 :: a9 :: a10 :: a11 :: a12 :: a13 :: a14 :: some (.long x) :: r) st := by
  obtain ⟨sd, E, P, l, p, e, R, s, m, args, below, meth, c⟩ := G
  obtain ⟨hx, hb, hr, hml, hown, hts, hK, hN, hlk, hR⟩ := C
  intro H locs ls hP hD hS hl
  refine lv_lload hx hb d (hl.2.2 15 _ rfl) ?_
  exact k H locs ls hP hD hS hl
theorem r_lld16 {G : zG} {cc : ByteArray} {own : String} {ret : Option FieldType} {nL fr lc : Nat} (C : zC G cc own ret nL fr lc) {M : zM} {r : List (Option Value)} {st : List Value} {pc : Nat} {a0 a1 a2 a3 a4 a5 a6 a7 a8 a9 a10 a11 a12 a13 a14 a15 : Option Value} {x : Int64} (d : decode cc pc = .ok (.lload 16, 2)) (k : VJ G M (pc + 2) (a0 :: a1 :: a2 :: a3 :: a4 :: a5 :: a6 :: a7 :: a8 :: a9 :: a10 :: a11 :: a12 :: a13 :: a14 :: a15 :: some (.long x) :: r) (.long x :: st)) : VJ G M pc (a0 :: a1 :: a2 :: a3 :: a4 :: a5 :: a6 :: a7 :: a8 :: a9 :: a10 :: a11 :: a12 :: a13 :: a14 :: a15 :: some (.long x) :: r) st := by
  obtain ⟨sd, E, P, l, p, e, R, s, m, args, below, meth, c⟩ := G
  obtain ⟨hx, hb, hr, hml, hown, hts, hK, hN, hlk, hR⟩ := C
  intro H locs ls hP hD hS hl
  refine lv_lload hx hb d (hl.2.2 16 _ rfl) ?_
  exact k H locs ls hP hD hS hl
theorem r_lld17 {G : zG} {cc : ByteArray} {own : String} {ret : Option FieldType} {nL fr lc : Nat} (C : zC G cc own ret nL fr lc) {M : zM} {r : List (Option Value)} {st : List Value} {pc : Nat} {a0 a1 a2 a3 a4 a5 a6 a7 a8 a9 a10 a11 a12 a13 a14 a15 a16 : Option Value} {x : Int64} (d : decode cc pc = .ok (.lload 17, 2)) (k : VJ G M (pc + 2) (a0 :: a1 :: a2 :: a3 :: a4 :: a5 :: a6 :: a7 :: a8 :: a9 :: a10 :: a11 :: a12 :: a13 :: a14 :: a15 :: a16 :: some (.long x) :: r) (.long x :: st)) : VJ G M pc (a0 :: a1 :: a2 :: a3 :: a4 :: a5 :: a6 :: a7 :: a8 :: a9 :: a10 :: a11 :: a12 :: a13 :: a14 :: a15 :: a16 :: some (.long x) :: r) st := by
  obtain ⟨sd, E, P, l, p, e, R, s, m, args, below, meth, c⟩ := G
  obtain ⟨hx, hb, hr, hml, hown, hts, hK, hN, hlk, hR⟩ := C
  intro H locs ls hP hD hS hl
  refine lv_lload hx hb d (hl.2.2 17 _ rfl) ?_
  exact k H locs ls hP hD hS hl
theorem r_lld18 {G : zG} {cc : ByteArray} {own : String} {ret : Option FieldType} {nL fr lc : Nat} (C : zC G cc own ret nL fr lc) {M : zM} {r : List (Option Value)} {st : List Value} {pc : Nat} {a0 a1 a2 a3 a4 a5 a6 a7 a8 a9 a10 a11 a12 a13 a14 a15 a16 a17 : Option Value} {x : Int64} (d : decode cc pc = .ok (.lload 18, 2)) (k : VJ G M (pc + 2) (a0 :: a1 :: a2 :: a3 :: a4 :: a5 :: a6 :: a7 :: a8 :: a9 :: a10 :: a11 :: a12 :: a13 :: a14 :: a15 :: a16 :: a17 :: some (.long x) :: r) (.long x :: st)) : VJ G M pc (a0 :: a1 :: a2 :: a3 :: a4 :: a5 :: a6 :: a7 :: a8 :: a9 :: a10 :: a11 :: a12 :: a13 :: a14 :: a15 :: a16 :: a17 :: some (.long x) :: r) st := by
  obtain ⟨sd, E, P, l, p, e, R, s, m, args, below, meth, c⟩ := G
  obtain ⟨hx, hb, hr, hml, hown, hts, hK, hN, hlk, hR⟩ := C
  intro H locs ls hP hD hS hl
  refine lv_lload hx hb d (hl.2.2 18 _ rfl) ?_
  exact k H locs ls hP hD hS hl
theorem r_lld19 {G : zG} {cc : ByteArray} {own : String} {ret : Option FieldType} {nL fr lc : Nat} (C : zC G cc own ret nL fr lc) {M : zM} {r : List (Option Value)} {st : List Value} {pc : Nat} {a0 a1 a2 a3 a4 a5 a6 a7 a8 a9 a10 a11 a12 a13 a14 a15 a16 a17 a18 : Option Value} {x : Int64} (d : decode cc pc = .ok (.lload 19, 2)) (k : VJ G M (pc + 2) (a0 :: a1 :: a2 :: a3 :: a4 :: a5 :: a6 :: a7 :: a8 :: a9 :: a10 :: a11 :: a12 :: a13 :: a14 :: a15 :: a16 :: a17 :: a18 :: some (.long x) :: r) (.long x :: st)) : VJ G M pc (a0 :: a1 :: a2 :: a3 :: a4 :: a5 :: a6 :: a7 :: a8 :: a9 :: a10 :: a11 :: a12 :: a13 :: a14 :: a15 :: a16 :: a17 :: a18 :: some (.long x) :: r) st := by
  obtain ⟨sd, E, P, l, p, e, R, s, m, args, below, meth, c⟩ := G
  obtain ⟨hx, hb, hr, hml, hown, hts, hK, hN, hlk, hR⟩ := C
  intro H locs ls hP hD hS hl
  refine lv_lload hx hb d (hl.2.2 19 _ rfl) ?_
  exact k H locs ls hP hD hS hl
theorem r_lld20 {G : zG} {cc : ByteArray} {own : String} {ret : Option FieldType} {nL fr lc : Nat} (C : zC G cc own ret nL fr lc) {M : zM} {r : List (Option Value)} {st : List Value} {pc : Nat} {a0 a1 a2 a3 a4 a5 a6 a7 a8 a9 a10 a11 a12 a13 a14 a15 a16 a17 a18 a19 : Option Value} {x : Int64} (d : decode cc pc = .ok (.lload 20, 2)) (k : VJ G M (pc + 2) (a0 :: a1 :: a2 :: a3 :: a4 :: a5 :: a6 :: a7 :: a8 :: a9 :: a10 :: a11 :: a12 :: a13 :: a14 :: a15 :: a16 :: a17 :: a18 :: a19 :: some (.long x) :: r) (.long x :: st)) : VJ G M pc (a0 :: a1 :: a2 :: a3 :: a4 :: a5 :: a6 :: a7 :: a8 :: a9 :: a10 :: a11 :: a12 :: a13 :: a14 :: a15 :: a16 :: a17 :: a18 :: a19 :: some (.long x) :: r) st := by
  obtain ⟨sd, E, P, l, p, e, R, s, m, args, below, meth, c⟩ := G
  obtain ⟨hx, hb, hr, hml, hown, hts, hK, hN, hlk, hR⟩ := C
  intro H locs ls hP hD hS hl
  refine lv_lload hx hb d (hl.2.2 20 _ rfl) ?_
  exact k H locs ls hP hD hS hl
theorem r_lld21 {G : zG} {cc : ByteArray} {own : String} {ret : Option FieldType} {nL fr lc : Nat} (C : zC G cc own ret nL fr lc) {M : zM} {r : List (Option Value)} {st : List Value} {pc : Nat} {a0 a1 a2 a3 a4 a5 a6 a7 a8 a9 a10 a11 a12 a13 a14 a15 a16 a17 a18 a19 a20 : Option Value} {x : Int64} (d : decode cc pc = .ok (.lload 21, 2)) (k : VJ G M (pc + 2) (a0 :: a1 :: a2 :: a3 :: a4 :: a5 :: a6 :: a7 :: a8 :: a9 :: a10 :: a11 :: a12 :: a13 :: a14 :: a15 :: a16 :: a17 :: a18 :: a19 :: a20 :: some (.long x) :: r) (.long x :: st)) : VJ G M pc (a0 :: a1 :: a2 :: a3 :: a4 :: a5 :: a6 :: a7 :: a8 :: a9 :: a10 :: a11 :: a12 :: a13 :: a14 :: a15 :: a16 :: a17 :: a18 :: a19 :: a20 :: some (.long x) :: r) st := by
  obtain ⟨sd, E, P, l, p, e, R, s, m, args, below, meth, c⟩ := G
  obtain ⟨hx, hb, hr, hml, hown, hts, hK, hN, hlk, hR⟩ := C
  intro H locs ls hP hD hS hl
  refine lv_lload hx hb d (hl.2.2 21 _ rfl) ?_
  exact k H locs ls hP hD hS hl
theorem r_ald0 {G : zG} {cc : ByteArray} {own : String} {ret : Option FieldType} {nL fr lc : Nat} (C : zC G cc own ret nL fr lc) {M : zM} {r : List (Option Value)} {st : List Value} {pc : Nat} {x : Nat} (d : decode cc pc = .ok (.aload_n 0, 1)) (k : VJ G M (pc + 1) (some (.ref x) :: r) (.ref x :: st)) : VJ G M pc (some (.ref x) :: r) st := by
  obtain ⟨sd, E, P, l, p, e, R, s, m, args, below, meth, c⟩ := G
  obtain ⟨hx, hb, hr, hml, hown, hts, hK, hN, hlk, hR⟩ := C
  intro H locs ls hP hD hS hl
  refine lv_aload_n hx hb d rfl (hl.2.2 0 _ rfl) ?_
  exact k H locs ls hP hD hS hl
theorem r_ald1 {G : zG} {cc : ByteArray} {own : String} {ret : Option FieldType} {nL fr lc : Nat} (C : zC G cc own ret nL fr lc) {M : zM} {r : List (Option Value)} {st : List Value} {pc : Nat} {a0 : Option Value} {x : Nat} (d : decode cc pc = .ok (.aload_n 1, 1)) (k : VJ G M (pc + 1) (a0 :: some (.ref x) :: r) (.ref x :: st)) : VJ G M pc (a0 :: some (.ref x) :: r) st := by
  obtain ⟨sd, E, P, l, p, e, R, s, m, args, below, meth, c⟩ := G
  obtain ⟨hx, hb, hr, hml, hown, hts, hK, hN, hlk, hR⟩ := C
  intro H locs ls hP hD hS hl
  refine lv_aload_n hx hb d rfl (hl.2.2 1 _ rfl) ?_
  exact k H locs ls hP hD hS hl
theorem r_ald2 {G : zG} {cc : ByteArray} {own : String} {ret : Option FieldType} {nL fr lc : Nat} (C : zC G cc own ret nL fr lc) {M : zM} {r : List (Option Value)} {st : List Value} {pc : Nat} {a0 a1 : Option Value} {x : Nat} (d : decode cc pc = .ok (.aload_n 2, 1)) (k : VJ G M (pc + 1) (a0 :: a1 :: some (.ref x) :: r) (.ref x :: st)) : VJ G M pc (a0 :: a1 :: some (.ref x) :: r) st := by
  obtain ⟨sd, E, P, l, p, e, R, s, m, args, below, meth, c⟩ := G
  obtain ⟨hx, hb, hr, hml, hown, hts, hK, hN, hlk, hR⟩ := C
  intro H locs ls hP hD hS hl
  refine lv_aload_n hx hb d rfl (hl.2.2 2 _ rfl) ?_
  exact k H locs ls hP hD hS hl
theorem r_ald3 {G : zG} {cc : ByteArray} {own : String} {ret : Option FieldType} {nL fr lc : Nat} (C : zC G cc own ret nL fr lc) {M : zM} {r : List (Option Value)} {st : List Value} {pc : Nat} {a0 a1 a2 : Option Value} {x : Nat} (d : decode cc pc = .ok (.aload_n 3, 1)) (k : VJ G M (pc + 1) (a0 :: a1 :: a2 :: some (.ref x) :: r) (.ref x :: st)) : VJ G M pc (a0 :: a1 :: a2 :: some (.ref x) :: r) st := by
  obtain ⟨sd, E, P, l, p, e, R, s, m, args, below, meth, c⟩ := G
  obtain ⟨hx, hb, hr, hml, hown, hts, hK, hN, hlk, hR⟩ := C
  intro H locs ls hP hD hS hl
  refine lv_aload_n hx hb d rfl (hl.2.2 3 _ rfl) ?_
  exact k H locs ls hP hD hS hl
theorem r_ald4 {G : zG} {cc : ByteArray} {own : String} {ret : Option FieldType} {nL fr lc : Nat} (C : zC G cc own ret nL fr lc) {M : zM} {r : List (Option Value)} {st : List Value} {pc : Nat} {a0 a1 a2 a3 : Option Value} {x : Nat} (d : decode cc pc = .ok (.aload 4, 2)) (k : VJ G M (pc + 2) (a0 :: a1 :: a2 :: a3 :: some (.ref x) :: r) (.ref x :: st)) : VJ G M pc (a0 :: a1 :: a2 :: a3 :: some (.ref x) :: r) st := by
  obtain ⟨sd, E, P, l, p, e, R, s, m, args, below, meth, c⟩ := G
  obtain ⟨hx, hb, hr, hml, hown, hts, hK, hN, hlk, hR⟩ := C
  intro H locs ls hP hD hS hl
  refine lv_aload hx hb d (hl.2.2 4 _ rfl) ?_
  exact k H locs ls hP hD hS hl
theorem r_ald5 {G : zG} {cc : ByteArray} {own : String} {ret : Option FieldType} {nL fr lc : Nat} (C : zC G cc own ret nL fr lc) {M : zM} {r : List (Option Value)} {st : List Value} {pc : Nat} {a0 a1 a2 a3 a4 : Option Value} {x : Nat} (d : decode cc pc = .ok (.aload 5, 2)) (k : VJ G M (pc + 2) (a0 :: a1 :: a2 :: a3 :: a4 :: some (.ref x) :: r) (.ref x :: st)) : VJ G M pc (a0 :: a1 :: a2 :: a3 :: a4 :: some (.ref x) :: r) st := by
  obtain ⟨sd, E, P, l, p, e, R, s, m, args, below, meth, c⟩ := G
  obtain ⟨hx, hb, hr, hml, hown, hts, hK, hN, hlk, hR⟩ := C
  intro H locs ls hP hD hS hl
  refine lv_aload hx hb d (hl.2.2 5 _ rfl) ?_
  exact k H locs ls hP hD hS hl
theorem r_ald6 {G : zG} {cc : ByteArray} {own : String} {ret : Option FieldType} {nL fr lc : Nat} (C : zC G cc own ret nL fr lc) {M : zM} {r : List (Option Value)} {st : List Value} {pc : Nat} {a0 a1 a2 a3 a4 a5 : Option Value} {x : Nat} (d : decode cc pc = .ok (.aload 6, 2)) (k : VJ G M (pc + 2) (a0 :: a1 :: a2 :: a3 :: a4 :: a5 :: some (.ref x) :: r) (.ref x :: st)) : VJ G M pc (a0 :: a1 :: a2 :: a3 :: a4 :: a5 :: some (.ref x) :: r) st := by
  obtain ⟨sd, E, P, l, p, e, R, s, m, args, below, meth, c⟩ := G
  obtain ⟨hx, hb, hr, hml, hown, hts, hK, hN, hlk, hR⟩ := C
  intro H locs ls hP hD hS hl
  refine lv_aload hx hb d (hl.2.2 6 _ rfl) ?_
  exact k H locs ls hP hD hS hl
theorem r_ald7 {G : zG} {cc : ByteArray} {own : String} {ret : Option FieldType} {nL fr lc : Nat} (C : zC G cc own ret nL fr lc) {M : zM} {r : List (Option Value)} {st : List Value} {pc : Nat} {a0 a1 a2 a3 a4 a5 a6 : Option Value} {x : Nat} (d : decode cc pc = .ok (.aload 7, 2)) (k : VJ G M (pc + 2) (a0 :: a1 :: a2 :: a3 :: a4 :: a5 :: a6 :: some (.ref x) :: r) (.ref x :: st)) : VJ G M pc (a0 :: a1 :: a2 :: a3 :: a4 :: a5 :: a6 :: some (.ref x) :: r) st := by
  obtain ⟨sd, E, P, l, p, e, R, s, m, args, below, meth, c⟩ := G
  obtain ⟨hx, hb, hr, hml, hown, hts, hK, hN, hlk, hR⟩ := C
  intro H locs ls hP hD hS hl
  refine lv_aload hx hb d (hl.2.2 7 _ rfl) ?_
  exact k H locs ls hP hD hS hl
theorem r_ald8 {G : zG} {cc : ByteArray} {own : String} {ret : Option FieldType} {nL fr lc : Nat} (C : zC G cc own ret nL fr lc) {M : zM} {r : List (Option Value)} {st : List Value} {pc : Nat} {a0 a1 a2 a3 a4 a5 a6 a7 : Option Value} {x : Nat} (d : decode cc pc = .ok (.aload 8, 2)) (k : VJ G M (pc + 2) (a0 :: a1 :: a2 :: a3 :: a4 :: a5 :: a6 :: a7 :: some (.ref x) :: r) (.ref x :: st)) : VJ G M pc (a0 :: a1 :: a2 :: a3 :: a4 :: a5 :: a6 :: a7 :: some (.ref x) :: r) st := by
  obtain ⟨sd, E, P, l, p, e, R, s, m, args, below, meth, c⟩ := G
  obtain ⟨hx, hb, hr, hml, hown, hts, hK, hN, hlk, hR⟩ := C
  intro H locs ls hP hD hS hl
  refine lv_aload hx hb d (hl.2.2 8 _ rfl) ?_
  exact k H locs ls hP hD hS hl
theorem r_ald9 {G : zG} {cc : ByteArray} {own : String} {ret : Option FieldType} {nL fr lc : Nat} (C : zC G cc own ret nL fr lc) {M : zM} {r : List (Option Value)} {st : List Value} {pc : Nat} {a0 a1 a2 a3 a4 a5 a6 a7 a8 : Option Value} {x : Nat} (d : decode cc pc = .ok (.aload 9, 2)) (k : VJ G M (pc + 2) (a0 :: a1 :: a2 :: a3 :: a4 :: a5 :: a6 :: a7 :: a8 :: some (.ref x) :: r) (.ref x :: st)) : VJ G M pc (a0 :: a1 :: a2 :: a3 :: a4 :: a5 :: a6 :: a7 :: a8 :: some (.ref x) :: r) st := by
  obtain ⟨sd, E, P, l, p, e, R, s, m, args, below, meth, c⟩ := G
  obtain ⟨hx, hb, hr, hml, hown, hts, hK, hN, hlk, hR⟩ := C
  intro H locs ls hP hD hS hl
  refine lv_aload hx hb d (hl.2.2 9 _ rfl) ?_
  exact k H locs ls hP hD hS hl
theorem r_ald10 {G : zG} {cc : ByteArray} {own : String} {ret : Option FieldType} {nL fr lc : Nat} (C : zC G cc own ret nL fr lc) {M : zM} {r : List (Option Value)} {st : List Value} {pc : Nat} {a0 a1 a2 a3 a4 a5 a6 a7 a8 a9 : Option Value} {x : Nat} (d : decode cc pc = .ok (.aload 10, 2)) (k : VJ G M (pc + 2) (a0 :: a1 :: a2 :: a3 :: a4 :: a5 :: a6 :: a7 :: a8 :: a9 :: some (.ref x) :: r) (.ref x :: st)) : VJ G M pc (a0 :: a1 :: a2 :: a3 :: a4 :: a5 :: a6 :: a7 :: a8 :: a9 :: some (.ref x) :: r) st := by
  obtain ⟨sd, E, P, l, p, e, R, s, m, args, below, meth, c⟩ := G
  obtain ⟨hx, hb, hr, hml, hown, hts, hK, hN, hlk, hR⟩ := C
  intro H locs ls hP hD hS hl
  refine lv_aload hx hb d (hl.2.2 10 _ rfl) ?_
  exact k H locs ls hP hD hS hl
theorem r_ald11 {G : zG} {cc : ByteArray} {own : String} {ret : Option FieldType} {nL fr lc : Nat} (C : zC G cc own ret nL fr lc) {M : zM} {r : List (Option Value)} {st : List Value} {pc : Nat} {a0 a1 a2 a3 a4 a5 a6 a7 a8 a9 a10 : Option Value} {x : Nat} (d : decode cc pc = .ok (.aload 11, 2)) (k : VJ G M (pc + 2) (a0 :: a1 :: a2 :: a3 :: a4 :: a5 :: a6 :: a7 :: a8 :: a9 :: a10 :: some (.ref x) :: r) (.ref x :: st)) : VJ G M pc (a0 :: a1 :: a2 :: a3 :: a4 :: a5 :: a6 :: a7 :: a8 :: a9 :: a10 :: some (.ref x) :: r) st := by
  obtain ⟨sd, E, P, l, p, e, R, s, m, args, below, meth, c⟩ := G
  obtain ⟨hx, hb, hr, hml, hown, hts, hK, hN, hlk, hR⟩ := C
  intro H locs ls hP hD hS hl
  refine lv_aload hx hb d (hl.2.2 11 _ rfl) ?_
  exact k H locs ls hP hD hS hl
theorem r_ald12 {G : zG} {cc : ByteArray} {own : String} {ret : Option FieldType} {nL fr lc : Nat} (C : zC G cc own ret nL fr lc) {M : zM} {r : List (Option Value)} {st : List Value} {pc : Nat} {a0 a1 a2 a3 a4 a5 a6 a7 a8 a9 a10 a11 : Option Value} {x : Nat} (d : decode cc pc = .ok (.aload 12, 2)) (k : VJ G M (pc + 2) (a0 :: a1 :: a2 :: a3 :: a4 :: a5 :: a6 :: a7 :: a8 :: a9 :: a10 :: a11 :: some (.ref x) :: r) (.ref x :: st)) : VJ G M pc (a0 :: a1 :: a2 :: a3 :: a4 :: a5 :: a6 :: a7 :: a8 :: a9 :: a10 :: a11 :: some (.ref x) :: r) st := by
  obtain ⟨sd, E, P, l, p, e, R, s, m, args, below, meth, c⟩ := G
  obtain ⟨hx, hb, hr, hml, hown, hts, hK, hN, hlk, hR⟩ := C
  intro H locs ls hP hD hS hl
  refine lv_aload hx hb d (hl.2.2 12 _ rfl) ?_
  exact k H locs ls hP hD hS hl
theorem r_ald13 {G : zG} {cc : ByteArray} {own : String} {ret : Option FieldType} {nL fr lc : Nat} (C : zC G cc own ret nL fr lc) {M : zM} {r : List (Option Value)} {st : List Value} {pc : Nat} {a0 a1 a2 a3 a4 a5 a6 a7 a8 a9 a10 a11 a12 : Option Value} {x : Nat} (d : decode cc pc = .ok (.aload 13, 2)) (k : VJ G M (pc + 2) (a0 :: a1 :: a2 :: a3 :: a4 :: a5 :: a6 :: a7 :: a8 :: a9 :: a10 :: a11 :: a12 :: some (.ref x) :: r) (.ref x :: st)) : VJ G M pc (a0 :: a1 :: a2 :: a3 :: a4 :: a5 :: a6 :: a7 :: a8 :: a9 :: a10 :: a11 :: a12 :: some (.ref x) :: r) st := by
  obtain ⟨sd, E, P, l, p, e, R, s, m, args, below, meth, c⟩ := G
  obtain ⟨hx, hb, hr, hml, hown, hts, hK, hN, hlk, hR⟩ := C
  intro H locs ls hP hD hS hl
  refine lv_aload hx hb d (hl.2.2 13 _ rfl) ?_
  exact k H locs ls hP hD hS hl
theorem r_ald14 {G : zG} {cc : ByteArray} {own : String} {ret : Option FieldType} {nL fr lc : Nat} (C : zC G cc own ret nL fr lc) {M : zM} {r : List (Option Value)} {st : List Value} {pc : Nat} {a0 a1 a2 a3 a4 a5 a6 a7 a8 a9 a10 a11 a12 a13 : Option Value} {x : Nat} (d : decode cc pc = .ok (.aload 14, 2)) (k : VJ G M (pc + 2) (a0 :: a1 :: a2 :: a3 :: a4 :: a5 :: a6 :: a7 :: a8 :: a9 :: a10 :: a11 :: a12 :: a13 :: some (.ref x) :: r) (.ref x :: st)) : VJ G M pc (a0 :: a1 :: a2 :: a3 :: a4 :: a5 :: a6 :: a7 :: a8 :: a9 :: a10 :: a11 :: a12 :: a13 :: some (.ref x) :: r) st := by
  obtain ⟨sd, E, P, l, p, e, R, s, m, args, below, meth, c⟩ := G
  obtain ⟨hx, hb, hr, hml, hown, hts, hK, hN, hlk, hR⟩ := C
  intro H locs ls hP hD hS hl
  refine lv_aload hx hb d (hl.2.2 14 _ rfl) ?_
  exact k H locs ls hP hD hS hl
theorem r_ald15 {G : zG} {cc : ByteArray} {own : String} {ret : Option FieldType} {nL fr lc : Nat} (C : zC G cc own ret nL fr lc) {M : zM} {r : List (Option Value)} {st : List Value} {pc : Nat} {a0 a1 a2 a3 a4 a5 a6 a7 a8 a9 a10 a11 a12 a13 a14 : Option Value} {x : Nat} (d : decode cc pc = .ok (.aload 15, 2)) (k : VJ G M (pc + 2) (a0 :: a1 :: a2 :: a3 :: a4 :: a5 :: a6 :: a7 :: a8 :: a9 :: a10 :: a11 :: a12 :: a13 :: a14 :: some (.ref x) :: r) (.ref x :: st)) : VJ G M pc (a0 :: a1 :: a2 :: a3 :: a4 :: a5 :: a6 :: a7 :: a8 :: a9 :: a10 :: a11 :: a12 :: a13 :: a14 :: some (.ref x) :: r) st := by
  obtain ⟨sd, E, P, l, p, e, R, s, m, args, below, meth, c⟩ := G
  obtain ⟨hx, hb, hr, hml, hown, hts, hK, hN, hlk, hR⟩ := C
  intro H locs ls hP hD hS hl
  refine lv_aload hx hb d (hl.2.2 15 _ rfl) ?_
  exact k H locs ls hP hD hS hl
theorem r_ald16 {G : zG} {cc : ByteArray} {own : String} {ret : Option FieldType} {nL fr lc : Nat} (C : zC G cc own ret nL fr lc) {M : zM} {r : List (Option Value)} {st : List Value} {pc : Nat} {a0 a1 a2 a3 a4 a5 a6 a7 a8 a9 a10 a11 a12 a13 a14 a15 : Option Value} {x : Nat} (d : decode cc pc = .ok (.aload 16, 2)) (k : VJ G M (pc + 2) (a0 :: a1 :: a2 :: a3 :: a4 :: a5 :: a6 :: a7 :: a8 :: a9 :: a10 :: a11 :: a12 :: a13 :: a14 :: a15 :: some (.ref x) :: r) (.ref x :: st)) : VJ G M pc (a0 :: a1 :: a2 :: a3 :: a4 :: a5 :: a6 :: a7 :: a8 :: a9 :: a10 :: a11 :: a12 :: a13 :: a14 :: a15 :: some (.ref x) :: r) st := by
  obtain ⟨sd, E, P, l, p, e, R, s, m, args, below, meth, c⟩ := G
  obtain ⟨hx, hb, hr, hml, hown, hts, hK, hN, hlk, hR⟩ := C
  intro H locs ls hP hD hS hl
  refine lv_aload hx hb d (hl.2.2 16 _ rfl) ?_
  exact k H locs ls hP hD hS hl
theorem r_ald17 {G : zG} {cc : ByteArray} {own : String} {ret : Option FieldType} {nL fr lc : Nat} (C : zC G cc own ret nL fr lc) {M : zM} {r : List (Option Value)} {st : List Value} {pc : Nat} {a0 a1 a2 a3 a4 a5 a6 a7 a8 a9 a10 a11 a12 a13 a14 a15 a16 : Option Value} {x : Nat} (d : decode cc pc = .ok (.aload 17, 2)) (k : VJ G M (pc + 2) (a0 :: a1 :: a2 :: a3 :: a4 :: a5 :: a6 :: a7 :: a8 :: a9 :: a10 :: a11 :: a12 :: a13 :: a14 :: a15 :: a16 :: some (.ref x) :: r) (.ref x :: st)) : VJ G M pc (a0 :: a1 :: a2 :: a3 :: a4 :: a5 :: a6 :: a7 :: a8 :: a9 :: a10 :: a11 :: a12 :: a13 :: a14 :: a15 :: a16 :: some (.ref x) :: r) st := by
  obtain ⟨sd, E, P, l, p, e, R, s, m, args, below, meth, c⟩ := G
  obtain ⟨hx, hb, hr, hml, hown, hts, hK, hN, hlk, hR⟩ := C
  intro H locs ls hP hD hS hl
  refine lv_aload hx hb d (hl.2.2 17 _ rfl) ?_
  exact k H locs ls hP hD hS hl
theorem r_ald18 {G : zG} {cc : ByteArray} {own : String} {ret : Option FieldType} {nL fr lc : Nat} (C : zC G cc own ret nL fr lc) {M : zM} {r : List (Option Value)} {st : List Value} {pc : Nat} {a0 a1 a2 a3 a4 a5 a6 a7 a8 a9 a10 a11 a12 a13 a14 a15 a16 a17 : Option Value} {x : Nat} (d : decode cc pc = .ok (.aload 18, 2)) (k : VJ G M (pc + 2) (a0 :: a1 :: a2 :: a3 :: a4 :: a5 :: a6 :: a7 :: a8 :: a9 :: a10 :: a11 :: a12 :: a13 :: a14 :: a15 :: a16 :: a17 :: some (.ref x) :: r) (.ref x :: st)) : VJ G M pc (a0 :: a1 :: a2 :: a3 :: a4 :: a5 :: a6 :: a7 :: a8 :: a9 :: a10 :: a11 :: a12 :: a13 :: a14 :: a15 :: a16 :: a17 :: some (.ref x) :: r) st := by
  obtain ⟨sd, E, P, l, p, e, R, s, m, args, below, meth, c⟩ := G
  obtain ⟨hx, hb, hr, hml, hown, hts, hK, hN, hlk, hR⟩ := C
  intro H locs ls hP hD hS hl
  refine lv_aload hx hb d (hl.2.2 18 _ rfl) ?_
  exact k H locs ls hP hD hS hl
theorem r_ald19 {G : zG} {cc : ByteArray} {own : String} {ret : Option FieldType} {nL fr lc : Nat} (C : zC G cc own ret nL fr lc) {M : zM} {r : List (Option Value)} {st : List Value} {pc : Nat} {a0 a1 a2 a3 a4 a5 a6 a7 a8 a9 a10 a11 a12 a13 a14 a15 a16 a17 a18 : Option Value} {x : Nat} (d : decode cc pc = .ok (.aload 19, 2)) (k : VJ G M (pc + 2) (a0 :: a1 :: a2 :: a3 :: a4 :: a5 :: a6 :: a7 :: a8 :: a9 :: a10 :: a11 :: a12 :: a13 :: a14 :: a15 :: a16 :: a17 :: a18 :: some (.ref x) :: r) (.ref x :: st)) : VJ G M pc (a0 :: a1 :: a2 :: a3 :: a4 :: a5 :: a6 :: a7 :: a8 :: a9 :: a10 :: a11 :: a12 :: a13 :: a14 :: a15 :: a16 :: a17 :: a18 :: some (.ref x) :: r) st := by
  obtain ⟨sd, E, P, l, p, e, R, s, m, args, below, meth, c⟩ := G
  obtain ⟨hx, hb, hr, hml, hown, hts, hK, hN, hlk, hR⟩ := C
  intro H locs ls hP hD hS hl
  refine lv_aload hx hb d (hl.2.2 19 _ rfl) ?_
  exact k H locs ls hP hD hS hl
theorem r_ald20 {G : zG} {cc : ByteArray} {own : String} {ret : Option FieldType} {nL fr lc : Nat} (C : zC G cc own ret nL fr lc) {M : zM} {r : List (Option Value)} {st : List Value} {pc : Nat} {a0 a1 a2 a3 a4 a5 a6 a7 a8 a9 a10 a11 a12 a13 a14 a15 a16 a17 a18 a19 : Option Value} {x : Nat} (d : decode cc pc = .ok (.aload 20, 2)) (k : VJ G M (pc + 2) (a0 :: a1 :: a2 :: a3 :: a4 :: a5 :: a6 :: a7 :: a8 :: a9 :: a10 :: a11 :: a12 :: a13 :: a14 :: a15 :: a16 :: a17 :: a18 :: a19 :: some (.ref x) :: r) (.ref x :: st)) : VJ G M pc (a0 :: a1 :: a2 :: a3 :: a4 :: a5 :: a6 :: a7 :: a8 :: a9 :: a10 :: a11 :: a12 :: a13 :: a14 :: a15 :: a16 :: a17 :: a18 :: a19 :: some (.ref x) :: r) st := by
  obtain ⟨sd, E, P, l, p, e, R, s, m, args, below, meth, c⟩ := G
  obtain ⟨hx, hb, hr, hml, hown, hts, hK, hN, hlk, hR⟩ := C
  intro H locs ls hP hD hS hl
  refine lv_aload hx hb d (hl.2.2 20 _ rfl) ?_
  exact k H locs ls hP hD hS hl
theorem r_ald21 {G : zG} {cc : ByteArray} {own : String} {ret : Option FieldType} {nL fr lc : Nat} (C : zC G cc own ret nL fr lc) {M : zM} {r : List (Option Value)} {st : List Value} {pc : Nat} {a0 a1 a2 a3 a4 a5 a6 a7 a8 a9 a10 a11 a12 a13 a14 a15 a16 a17 a18 a19 a20 : Option Value} {x : Nat} (d : decode cc pc = .ok (.aload 21, 2)) (k : VJ G M (pc + 2) (a0 :: a1 :: a2 :: a3 :: a4 :: a5 :: a6 :: a7 :: a8 :: a9 :: a10 :: a11 :: a12 :: a13 :: a14 :: a15 :: a16 :: a17 :: a18 :: a19 :: a20 :: some (.ref x) :: r) (.ref x :: st)) : VJ G M pc (a0 :: a1 :: a2 :: a3 :: a4 :: a5 :: a6 :: a7 :: a8 :: a9 :: a10 :: a11 :: a12 :: a13 :: a14 :: a15 :: a16 :: a17 :: a18 :: a19 :: a20 :: some (.ref x) :: r) st := by
  obtain ⟨sd, E, P, l, p, e, R, s, m, args, below, meth, c⟩ := G
  obtain ⟨hx, hb, hr, hml, hown, hts, hK, hN, hlk, hR⟩ := C
  intro H locs ls hP hD hS hl
  refine lv_aload hx hb d (hl.2.2 21 _ rfl) ?_
  exact k H locs ls hP hD hS hl
theorem lh_c1 {lo : List (Option Value)} {i : Nat} (h : i = 0 ∨ ∃ (j : Nat) (q : Option Value), j + 1 = i ∧ lo[j]? = some q ∧ zc1 q = true) : ∀ (j : Nat) (w : Value), j + 1 = i → lo[j]? = some (some w) → w.category = 1 := by
  intro j w hj hw
  rcases h with h | ⟨j2, q, e1, e2, e3⟩
  · omega
  · have : j2 = j := by omega
    subst this
    rw [hw] at e2
    cases e2
    exact zc1_spec e3 rfl
theorem r_ist0 {G : zG} {cc : ByteArray} {own : String} {ret : Option FieldType} {nL fr lc : Nat} (C : zC G cc own ret nL fr lc) {M : zM} {r : List (Option Value)} {st : List Value} {pc : Nat} { q0 : Option Value} {x : Int32} (d : decode cc pc = .ok (.istore_n 0, 1)) (k : VJ G M (pc + 1) (some (.int x) :: r) st) : VJ G M pc (q0 :: r) (.int x :: st) := by
  obtain ⟨sd, E, P, l, p, e, R, s, m, args, below, meth, c⟩ := G
  obtain ⟨hx, hb, hr, hml, hown, hts, hK, hN, hlk, hR⟩ := C
  intro H locs ls hP hD hS hl
  obtain ⟨ls', e', h'⟩ := lh_store1 (v := .int x) (i := 0) hl (by simp) rfl (lh_c1 (lo := (q0 :: r)) (i := 0) (Or.inl rfl))
  intro T hT X
  obtain ⟨t, a, b⟩ := k H locs ls' hP hD hS h' T hT X
  refine ⟨t, ?_, b⟩
  jvm_step X.here [X.here.top, hx, hb, d, e', Value.isRef]
  exact a
theorem r_ist1 {G : zG} {cc : ByteArray} {own : String} {ret : Option FieldType} {nL fr lc : Nat} (C : zC G cc own ret nL fr lc) {M : zM} {r : List (Option Value)} {st : List Value} {pc : Nat} {a0 q0 : Option Value} {x : Int32} (h1 : zc1 a0 = true) (d : decode cc pc = .ok (.istore_n 1, 1)) (k : VJ G M (pc + 1) (a0 :: some (.int x) :: r) st) : VJ G M pc (a0 :: q0 :: r) (.int x :: st) := by
  obtain ⟨sd, E, P, l, p, e, R, s, m, args, below, meth, c⟩ := G
  obtain ⟨hx, hb, hr, hml, hown, hts, hK, hN, hlk, hR⟩ := C
  intro H locs ls hP hD hS hl
  obtain ⟨ls', e', h'⟩ := lh_store1 (v := .int x) (i := 1) hl (by simp) rfl (lh_c1 (lo := (a0 :: q0 :: r)) (i := 1) (Or.inr ⟨0, _, rfl, rfl, h1⟩))
  intro T hT X
  obtain ⟨t, a, b⟩ := k H locs ls' hP hD hS h' T hT X
  refine ⟨t, ?_, b⟩
  jvm_step X.here [X.here.top, hx, hb, d, e', Value.isRef]
  exact a
theorem r_ist2 {G : zG} {cc : ByteArray} {own : String} {ret : Option FieldType} {nL fr lc : Nat} (C : zC G cc own ret nL fr lc) {M : zM} {r : List (Option Value)} {st : List Value} {pc : Nat} {a0 a1 q0 : Option Value} {x : Int32} (h1 : zc1 a1 = true) (d : decode cc pc = .ok (.istore_n 2, 1)) (k : VJ G M (pc + 1) (a0 :: a1 :: some (.int x) :: r) st) : VJ G M pc (a0 :: a1 :: q0 :: r) (.int x :: st) := by
  obtain ⟨sd, E, P, l, p, e, R, s, m, args, below, meth, c⟩ := G
  obtain ⟨hx, hb, hr, hml, hown, hts, hK, hN, hlk, hR⟩ := C
  intro H locs ls hP hD hS hl
  obtain ⟨ls', e', h'⟩ := lh_store1 (v := .int x) (i := 2) hl (by simp) rfl (lh_c1 (lo := (a0 :: a1 :: q0 :: r)) (i := 2) (Or.inr ⟨1, _, rfl, rfl, h1⟩))
  intro T hT X
  obtain ⟨t, a, b⟩ := k H locs ls' hP hD hS h' T hT X
  refine ⟨t, ?_, b⟩
  jvm_step X.here [X.here.top, hx, hb, d, e', Value.isRef]
  exact a
theorem r_ist3 {G : zG} {cc : ByteArray} {own : String} {ret : Option FieldType} {nL fr lc : Nat} (C : zC G cc own ret nL fr lc) {M : zM} {r : List (Option Value)} {st : List Value} {pc : Nat} {a0 a1 a2 q0 : Option Value} {x : Int32} (h1 : zc1 a2 = true) (d : decode cc pc = .ok (.istore_n 3, 1)) (k : VJ G M (pc + 1) (a0 :: a1 :: a2 :: some (.int x) :: r) st) : VJ G M pc (a0 :: a1 :: a2 :: q0 :: r) (.int x :: st) := by
  obtain ⟨sd, E, P, l, p, e, R, s, m, args, below, meth, c⟩ := G
  obtain ⟨hx, hb, hr, hml, hown, hts, hK, hN, hlk, hR⟩ := C
  intro H locs ls hP hD hS hl
  obtain ⟨ls', e', h'⟩ := lh_store1 (v := .int x) (i := 3) hl (by simp) rfl (lh_c1 (lo := (a0 :: a1 :: a2 :: q0 :: r)) (i := 3) (Or.inr ⟨2, _, rfl, rfl, h1⟩))
  intro T hT X
  obtain ⟨t, a, b⟩ := k H locs ls' hP hD hS h' T hT X
  refine ⟨t, ?_, b⟩
  jvm_step X.here [X.here.top, hx, hb, d, e', Value.isRef]
  exact a
theorem r_ist4 {G : zG} {cc : ByteArray} {own : String} {ret : Option FieldType} {nL fr lc : Nat} (C : zC G cc own ret nL fr lc) {M : zM} {r : List (Option Value)} {st : List Value} {pc : Nat} {a0 a1 a2 a3 q0 : Option Value} {x : Int32} (h1 : zc1 a3 = true) (d : decode cc pc = .ok (.istore 4, 2)) (k : VJ G M (pc + 2) (a0 :: a1 :: a2 :: a3 :: some (.int x) :: r) st) : VJ G M pc (a0 :: a1 :: a2 :: a3 :: q0 :: r) (.int x :: st) := by
  obtain ⟨sd, E, P, l, p, e, R, s, m, args, below, meth, c⟩ := G
  obtain ⟨hx, hb, hr, hml, hown, hts, hK, hN, hlk, hR⟩ := C
  intro H locs ls hP hD hS hl
  obtain ⟨ls', e', h'⟩ := lh_store1 (v := .int x) (i := 4) hl (by simp) rfl (lh_c1 (lo := (a0 :: a1 :: a2 :: a3 :: q0 :: r)) (i := 4) (Or.inr ⟨3, _, rfl, rfl, h1⟩))
  intro T hT X
  obtain ⟨t, a, b⟩ := k H locs ls' hP hD hS h' T hT X
  refine ⟨t, ?_, b⟩
  jvm_step X.here [X.here.top, hx, hb, d, e', Value.isRef]
  exact a
theorem r_ist5 {G : zG} {cc : ByteArray} {own : String} {ret : Option FieldType} {nL fr lc : Nat} (C : zC G cc own ret nL fr lc) {M : zM} {r : List (Option Value)} {st : List Value} {pc : Nat} {a0 a1 a2 a3 a4 q0 : Option Value} {x : Int32} (h1 : zc1 a4 = true) (d : decode cc pc = .ok (.istore 5, 2)) (k : VJ G M (pc + 2) (a0 :: a1 :: a2 :: a3 :: a4 :: some (.int x) :: r) st) : VJ G M pc (a0 :: a1 :: a2 :: a3 :: a4 :: q0 :: r) (.int x :: st) := by
  obtain ⟨sd, E, P, l, p, e, R, s, m, args, below, meth, c⟩ := G
  obtain ⟨hx, hb, hr, hml, hown, hts, hK, hN, hlk, hR⟩ := C
  intro H locs ls hP hD hS hl
  obtain ⟨ls', e', h'⟩ := lh_store1 (v := .int x) (i := 5) hl (by simp) rfl (lh_c1 (lo := (a0 :: a1 :: a2 :: a3 :: a4 :: q0 :: r)) (i := 5) (Or.inr ⟨4, _, rfl, rfl, h1⟩))
  intro T hT X
  obtain ⟨t, a, b⟩ := k H locs ls' hP hD hS h' T hT X
  refine ⟨t, ?_, b⟩
  jvm_step X.here [X.here.top, hx, hb, d, e', Value.isRef]
  exact a
theorem r_ist6 {G : zG} {cc : ByteArray} {own : String} {ret : Option FieldType} {nL fr lc : Nat} (C : zC G cc own ret nL fr lc) {M : zM} {r : List (Option Value)} {st : List Value} {pc : Nat} {a0 a1 a2 a3 a4 a5 q0 : Option Value} {x : Int32} (h1 : zc1 a5 = true) (d : decode cc pc = .ok (.istore 6, 2)) (k : VJ G M (pc + 2) (a0 :: a1 :: a2 :: a3 :: a4 :: a5 :: some (.int x) :: r) st) : VJ G M pc (a0 :: a1 :: a2 :: a3 :: a4 :: a5 :: q0 :: r) (.int x :: st) := by
  obtain ⟨sd, E, P, l, p, e, R, s, m, args, below, meth, c⟩ := G
  obtain ⟨hx, hb, hr, hml, hown, hts, hK, hN, hlk, hR⟩ := C
  intro H locs ls hP hD hS hl
  obtain ⟨ls', e', h'⟩ := lh_store1 (v := .int x) (i := 6) hl (by simp) rfl (lh_c1 (lo := (a0 :: a1 :: a2 :: a3 :: a4 :: a5 :: q0 :: r)) (i := 6) (Or.inr ⟨5, _, rfl, rfl, h1⟩))
  intro T hT X
  obtain ⟨t, a, b⟩ := k H locs ls' hP hD hS h' T hT X
  refine ⟨t, ?_, b⟩
  jvm_step X.here [X.here.top, hx, hb, d, e', Value.isRef]
  exact a
theorem r_ist7 {G : zG} {cc : ByteArray} {own : String} {ret : Option FieldType} {nL fr lc : Nat} (C : zC G cc own ret nL fr lc) {M : zM} {r : List (Option Value)} {st : List Value} {pc : Nat} {a0 a1 a2 a3 a4 a5 a6 q0 : Option Value} {x : Int32} (h1 : zc1 a6 = true) (d : decode cc pc = .ok (.istore 7, 2)) (k : VJ G M (pc + 2) (a0 :: a1 :: a2 :: a3 :: a4 :: a5 :: a6 :: some (.int x) :: r) st) : VJ G M pc (a0 :: a1 :: a2 :: a3 :: a4 :: a5 :: a6 :: q0 :: r) (.int x :: st) := by
  obtain ⟨sd, E, P, l, p, e, R, s, m, args, below, meth, c⟩ := G
  obtain ⟨hx, hb, hr, hml, hown, hts, hK, hN, hlk, hR⟩ := C
  intro H locs ls hP hD hS hl
  obtain ⟨ls', e', h'⟩ := lh_store1 (v := .int x) (i := 7) hl (by simp) rfl (lh_c1 (lo := (a0 :: a1 :: a2 :: a3 :: a4 :: a5 :: a6 :: q0 :: r)) (i := 7) (Or.inr ⟨6, _, rfl, rfl, h1⟩))
  intro T hT X
  obtain ⟨t, a, b⟩ := k H locs ls' hP hD hS h' T hT X
  refine ⟨t, ?_, b⟩
  jvm_step X.here [X.here.top, hx, hb, d, e', Value.isRef]
  exact a
theorem r_ist8 {G : zG} {cc : ByteArray} {own : String} {ret : Option FieldType} {nL fr lc : Nat} (C : zC G cc own ret nL fr lc) {M : zM} {r : List (Option Value)} {st : List Value} {pc : Nat} {a0 a1 a2 a3 a4 a5 a6 a7 q0 : Option Value} {x : Int32} (h1 : zc1 a7 = true) (d : decode cc pc = .ok (.istore 8, 2)) (k : VJ G M (pc + 2) (a0 :: a1 :: a2 :: a3 :: a4 :: a5 :: a6 :: a7 :: some (.int x) :: r) st) : VJ G M pc (a0 :: a1 :: a2 :: a3 :: a4 :: a5 :: a6 :: a7 :: q0 :: r) (.int x :: st) := by
  obtain ⟨sd, E, P, l, p, e, R, s, m, args, below, meth, c⟩ := G
  obtain ⟨hx, hb, hr, hml, hown, hts, hK, hN, hlk, hR⟩ := C
  intro H locs ls hP hD hS hl
  obtain ⟨ls', e', h'⟩ := lh_store1 (v := .int x) (i := 8) hl (by simp) rfl (lh_c1 (lo := (a0 :: a1 :: a2 :: a3 :: a4 :: a5 :: a6 :: a7 :: q0 :: r)) (i := 8) (Or.inr ⟨7, _, rfl, rfl, h1⟩))
  intro T hT X
  obtain ⟨t, a, b⟩ := k H locs ls' hP hD hS h' T hT X
  refine ⟨t, ?_, b⟩
  jvm_step X.here [X.here.top, hx, hb, d, e', Value.isRef]
  exact a
theorem r_ist9 {G : zG} {cc : ByteArray} {own : String} {ret : Option FieldType} {nL fr lc : Nat} (C : zC G cc own ret nL fr lc) {M : zM} {r : List (Option Value)} {st : List Value} {pc : Nat} {a0 a1 a2 a3 a4 a5 a6 a7 a8 q0 : Option Value} {x : Int32} (h1 : zc1 a8 = true) (d : decode cc pc = .ok (.istore 9, 2)) (k : VJ G M (pc + 2) (a0 :: a1 :: a2 :: a3 :: a4 :: a5 :: a6 :: a7 :: a8 :: some (.int x) :: r) st) : VJ G M pc (a0 :: a1 :: a2 :: a3 :: a4 :: a5 :: a6 :: a7 :: a8 :: q0 :: r) (.int x :: st) := by
  obtain ⟨sd, E, P, l, p, e, R, s, m, args, below, meth, c⟩ := G
  obtain ⟨hx, hb, hr, hml, hown, hts, hK, hN, hlk, hR⟩ := C
  intro H locs ls hP hD hS hl
  obtain ⟨ls', e', h'⟩ := lh_store1 (v := .int x) (i := 9) hl (by simp) rfl (lh_c1 (lo := (a0 :: a1 :: a2 :: a3 :: a4 :: a5 :: a6 :: a7 :: a8 :: q0 :: r)) (i := 9) (Or.inr ⟨8, _, rfl, rfl, h1⟩))
  intro T hT X
  obtain ⟨t, a, b⟩ := k H locs ls' hP hD hS h' T hT X
  refine ⟨t, ?_, b⟩
  jvm_step X.here [X.here.top, hx, hb, d, e', Value.isRef]
  exact a
theorem r_ist10 {G : zG} {cc : ByteArray} {own : String} {ret : Option FieldType} {nL fr lc : Nat} (C : zC G cc own ret nL fr lc) {M : zM} {r : List (Option Value)} {st : List Value} {pc : Nat} {a0 a1 a2 a3 a4 a5 a6 a7 a8 a9 q0 : Option Value} {x : Int32} (h1 : zc1 a9 = true) (d : decode cc pc = .ok (.istore 10, 2)) (k : VJ G M (pc + 2) (a0 :: a1 :: a2 :: a3 :: a4 :: a5 :: a6 :: a7 :: a8 :: a9 :: some (.int x) :: r) st) : VJ G M pc (a0 :: a1 :: a2 :: a3 :: a4 :: a5 :: a6 :: a7 :: a8 :: a9 :: q0 :: r) (.int x :: st) := by
  obtain ⟨sd, E, P, l, p, e, R, s, m, args, below, meth, c⟩ := G
  obtain ⟨hx, hb, hr, hml, hown, hts, hK, hN, hlk, hR⟩ := C
  intro H locs ls hP hD hS hl
  obtain ⟨ls', e', h'⟩ := lh_store1 (v := .int x) (i := 10) hl (by simp) rfl (lh_c1 (lo := (a0 :: a1 :: a2 :: a3 :: a4 :: a5 :: a6 :: a7 :: a8 :: a9 :: q0 :: r)) (i := 10) (Or.inr ⟨9, _, rfl, rfl, h1⟩))
  intro T hT X
  obtain ⟨t, a, b⟩ := k H locs ls' hP hD hS h' T hT X
  refine ⟨t, ?_, b⟩
  jvm_step X.here [X.here.top, hx, hb, d, e', Value.isRef]
  exact a
theorem r_ist11 {G : zG} {cc : ByteArray} {own : String} {ret : Option FieldType} {nL fr lc : Nat} (C : zC G cc own ret nL fr lc) {M : zM} {r : List (Option Value)} {st : List Value} {pc : Nat} {a0 a1 a2 a3 a4 a5 a6 a7 a8 a9 a10 q0 : Option Value} {x : Int32} (h1 : zc1 a10 = true) (d : decode cc pc = .ok (.istore 11, 2)) (k : VJ G M (pc + 2) (a0 :: a1 :: a2 :: a3 :: a4 :: a5 :: a6 :: a7 :: a8 :: a9 :: a10 :: some (.int x) :: r) st) : VJ G M pc (a0 :: a1 :: a2 :: a3 :: a4 :: a5 :: a6 :: a7 :: a8 :: a9 :: a10 :: q0 :: r) (.int x :: st) := by
  obtain ⟨sd, E, P, l, p, e, R, s, m, args, below, meth, c⟩ := G
  obtain ⟨hx, hb, hr, hml, hown, hts, hK, hN, hlk, hR⟩ := C
  intro H locs ls hP hD hS hl
  obtain ⟨ls', e', h'⟩ := lh_store1 (v := .int x) (i := 11) hl (by simp) rfl (lh_c1 (lo := (a0 :: a1 :: a2 :: a3 :: a4 :: a5 :: a6 :: a7 :: a8 :: a9 :: a10 :: q0 :: r)) (i := 11) (Or.inr ⟨10, _, rfl, rfl, h1⟩))
  intro T hT X
  obtain ⟨t, a, b⟩ := k H locs ls' hP hD hS h' T hT X
  refine ⟨t, ?_, b⟩
  jvm_step X.here [X.here.top, hx, hb, d, e', Value.isRef]
  exact a
theorem r_ist12 {G : zG} {cc : ByteArray} {own : String} {ret : Option FieldType} {nL fr lc : Nat} (C : zC G cc own ret nL fr lc) {M : zM} {r : List (Option Value)} {st : List Value} {pc : Nat} {a0 a1 a2 a3 a4 a5 a6 a7 a8 a9 a10 a11 q0 : Option Value} {x : Int32} (h1 : zc1 a11 = true) (d : decode cc pc = .ok (.istore 12, 2)) (k : VJ G M (pc + 2) (a0 :: a1 :: a2 :: a3 :: a4 :: a5 :: a6 :: a7 :: a8 :: a9 :: a10 :: a11 :: some (.int x) :: r) st) : VJ G M pc (a0 :: a1 :: a2 :: a3 :: a4 :: a5 :: a6 :: a7 :: a8 :: a9 :: a10 :: a11 :: q0 :: r) (.int x :: st) := by
  obtain ⟨sd, E, P, l, p, e, R, s, m, args, below, meth, c⟩ := G
  obtain ⟨hx, hb, hr, hml, hown, hts, hK, hN, hlk, hR⟩ := C
  intro H locs ls hP hD hS hl
  obtain ⟨ls', e', h'⟩ := lh_store1 (v := .int x) (i := 12) hl (by simp) rfl (lh_c1 (lo := (a0 :: a1 :: a2 :: a3 :: a4 :: a5 :: a6 :: a7 :: a8 :: a9 :: a10 :: a11 :: q0 :: r)) (i := 12) (Or.inr ⟨11, _, rfl, rfl, h1⟩))
  intro T hT X
  obtain ⟨t, a, b⟩ := k H locs ls' hP hD hS h' T hT X
  refine ⟨t, ?_, b⟩
  jvm_step X.here [X.here.top, hx, hb, d, e', Value.isRef]
  exact a
theorem r_ist13 {G : zG} {cc : ByteArray} {own : String} {ret : Option FieldType} {nL fr lc : Nat} (C : zC G cc own ret nL fr lc) {M : zM} {r : List (Option Value)} {st : List Value} {pc : Nat} {a0 a1 a2 a3 a4 a5 a6 a7 a8 a9 a10 a11 a12 q0 : Option Value} {x : Int32} (h1 : zc1 a12 = true) (d : decode cc pc = .ok (.istore 13, 2)) (k : VJ G M (pc + 2) (a0 :: a1 :: a2 :: a3 :: a4 :: a5 :: a6 :: a7 :: a8 :: a9 :: a10 :: a11 :: a12 :: some (.int x) :: r) st) : VJ G M pc (a0 :: a1 :: a2 :: a3 :: a4 :: a5 :: a6 :: a7 :: a8 :: a9 :: a10 :: a11 :: a12 :: q0 :: r) (.int x :: st) := by
  obtain ⟨sd, E, P, l, p, e, R, s, m, args, below, meth, c⟩ := G
  obtain ⟨hx, hb, hr, hml, hown, hts, hK, hN, hlk, hR⟩ := C
  intro H locs ls hP hD hS hl
  obtain ⟨ls', e', h'⟩ := lh_store1 (v := .int x) (i := 13) hl (by simp) rfl (lh_c1 (lo := (a0 :: a1 :: a2 :: a3 :: a4 :: a5 :: a6 :: a7 :: a8 :: a9 :: a10 :: a11 :: a12 :: q0 :: r)) (i := 13) (Or.inr ⟨12, _, rfl, rfl, h1⟩))
  intro T hT X
  obtain ⟨t, a, b⟩ := k H locs ls' hP hD hS h' T hT X
  refine ⟨t, ?_, b⟩
  jvm_step X.here [X.here.top, hx, hb, d, e', Value.isRef]
  exact a
theorem r_ist14 {G : zG} {cc : ByteArray} {own : String} {ret : Option FieldType} {nL fr lc : Nat} (C : zC G cc own ret nL fr lc) {M : zM} {r : List (Option Value)} {st : List Value} {pc : Nat} {a0 a1 a2 a3 a4 a5 a6 a7 a8 a9 a10 a11 a12 a13 q0 : Option Value} {x : Int32} (h1 : zc1 a13 = true) (d : decode cc pc = .ok (.istore 14, 2)) (k : VJ G M (pc + 2) (a0 :: a1 :: a2 :: a3 :: a4 :: a5 :: a6 :: a7 :: a8 :: a9 :: a10 :: a11 :: a12 :: a13 :: some (.int x) :: r) st) : VJ G M pc (a0 :: a1 :: a2 :: a3 :: a4 :: a5 :: a6 :: a7 :: a8 :: a9 :: a10 :: a11 :: a12 :: a13 :: q0 :: r) (.int x :: st) := by
  obtain ⟨sd, E, P, l, p, e, R, s, m, args, below, meth, c⟩ := G
  obtain ⟨hx, hb, hr, hml, hown, hts, hK, hN, hlk, hR⟩ := C
  intro H locs ls hP hD hS hl
  obtain ⟨ls', e', h'⟩ := lh_store1 (v := .int x) (i := 14) hl (by simp) rfl (lh_c1 (lo := (a0 :: a1 :: a2 :: a3 :: a4 :: a5 :: a6 :: a7 :: a8 :: a9 :: a10 :: a11 :: a12 :: a13 :: q0 :: r)) (i := 14) (Or.inr ⟨13, _, rfl, rfl, h1⟩))
  intro T hT X
  obtain ⟨t, a, b⟩ := k H locs ls' hP hD hS h' T hT X
  refine ⟨t, ?_, b⟩
  jvm_step X.here [X.here.top, hx, hb, d, e', Value.isRef]
  exact a
theorem r_ist15 {G : zG} {cc : ByteArray} {own : String} {ret : Option FieldType} {nL fr lc : Nat} (C : zC G cc own ret nL fr lc) {M : zM} {r : List (Option Value)} {st : List Value} {pc : Nat} {a0 a1 a2 a3 a4 a5 a6 a7 a8 a9 a10 a11 a12 a13 a14 q0 : Option Value} {x : Int32} (h1 : zc1 a14 = true) (d : decode cc pc = .ok (.istore 15, 2)) (k : VJ G M (pc + 2) (a0 :: a1 :: a2 :: a3 :: a4 :: a5 :: a6 :: a7 :: a8 :: a9 :: a10 :: a11 :: a12 :: a13 :: a14 :: some (.int x) :: r) st) : VJ G M pc (a0 :: a1 :: a2 :: a3 :: a4 :: a5 :: a6 :: a7 :: a8 :: a9 :: a10 :: a11 :: a12 :: a13 :: a14 :: q0 :: r) (.int x :: st) := by
  obtain ⟨sd, E, P, l, p, e, R, s, m, args, below, meth, c⟩ := G
  obtain ⟨hx, hb, hr, hml, hown, hts, hK, hN, hlk, hR⟩ := C
  intro H locs ls hP hD hS hl
  obtain ⟨ls', e', h'⟩ := lh_store1 (v := .int x) (i := 15) hl (by simp) rfl (lh_c1 (lo := (a0 :: a1 :: a2 :: a3 :: a4 :: a5 :: a6 :: a7 :: a8 :: a9 :: a10 :: a11 :: a12 :: a13 :: a14 :: q0 :: r)) (i := 15) (Or.inr ⟨14, _, rfl, rfl, h1⟩))
  intro T hT X
  obtain ⟨t, a, b⟩ := k H locs ls' hP hD hS h' T hT X
  refine ⟨t, ?_, b⟩
  jvm_step X.here [X.here.top, hx, hb, d, e', Value.isRef]
  exact a
theorem r_ist16 {G : zG} {cc : ByteArray} {own : String} {ret : Option FieldType} {nL fr lc : Nat} (C : zC G cc own ret nL fr lc) {M : zM} {r : List (Option Value)} {st : List Value} {pc : Nat} {a0 a1 a2 a3 a4 a5 a6 a7 a8 a9 a10 a11 a12 a13 a14 a15 q0 : Option Value} {x : Int32} (h1 : zc1 a15 = true) (d : decode cc pc = .ok (.istore 16, 2)) (k : VJ G M (pc + 2) (a0 :: a1 :: a2 :: a3 :: a4 :: a5 :: a6 :: a7 :: a8 :: a9 :: a10 :: a11 :: a12 :: a13 :: a14 :: a15 :: some (.int x) :: r) st) : VJ G M pc (a0 :: a1 :: a2 :: a3 :: a4 :: a5 :: a6 :: a7 :: a8 :: a9 :: a10 :: a11 :: a12 :: a13 :: a14 :: a15 :: q0 :: r) (.int x :: st) := by
  obtain ⟨sd, E, P, l, p, e, R, s, m, args, below, meth, c⟩ := G
  obtain ⟨hx, hb, hr, hml, hown, hts, hK, hN, hlk, hR⟩ := C
  intro H locs ls hP hD hS hl
  obtain ⟨ls', e', h'⟩ := lh_store1 (v := .int x) (i := 16) hl (by simp) rfl (lh_c1 (lo := (a0 :: a1 :: a2 :: a3 :: a4 :: a5 :: a6 :: a7 :: a8 :: a9 :: a10 :: a11 :: a12 :: a13 :: a14 :: a15 :: q0 :: r)) (i := 16) (Or.inr ⟨15, _, rfl, rfl, h1⟩))
  intro T hT X
  obtain ⟨t, a, b⟩ := k H locs ls' hP hD hS h' T hT X
  refine ⟨t, ?_, b⟩
  jvm_step X.here [X.here.top, hx, hb, d, e', Value.isRef]
  exact a
theorem r_ist17 {G : zG} {cc : ByteArray} {own : String} {ret : Option FieldType} {nL fr lc : Nat} (C : zC G cc own ret nL fr lc) {M : zM} {r : List (Option Value)} {st : List Value} {pc : Nat} {a0 a1 a2 a3 a4 a5 a6 a7 a8 a9 a10 a11 a12 a13 a14 a15 a16 q0 : Option Value} {x : Int32} (h1 : zc1 a16 = true) (d : decode cc pc = .ok (.istore 17, 2)) (k : VJ G M (pc + 2) (a0 :: a1 :: a2 :: a3 :: a4 :: a5 :: a6 :: a7 :: a8 :: a9 :: a10 :: a11 :: a12 :: a13 :: a14 :: a15 :: a16 :: some (.int x) :: r) st) : VJ G M pc (a0 :: a1 :: a2 :: a3 :: a4 :: a5 :: a6 :: a7 :: a8 :: a9 :: a10 :: a11 :: a12 :: a13 :: a14 :: a15 :: a16 :: q0 :: r) (.int x :: st) := by
  obtain ⟨sd, E, P, l, p, e, R, s, m, args, below, meth, c⟩ := G
  obtain ⟨hx, hb, hr, hml, hown, hts, hK, hN, hlk, hR⟩ := C
  intro H locs ls hP hD hS hl
  obtain ⟨ls', e', h'⟩ := lh_store1 (v := .int x) (i := 17) hl (by simp) rfl (lh_c1 (lo := (a0 :: a1 :: a2 :: a3 :: a4 :: a5 :: a6 :: a7 :: a8 :: a9 :: a10 :: a11 :: a12 :: a13 :: a14 :: a15 :: a16 :: q0 :: r)) (i := 17) (Or.inr ⟨16, _, rfl, rfl, h1⟩))
  intro T hT X
  obtain ⟨t, a, b⟩ := k H locs ls' hP hD hS h' T hT X
  refine ⟨t, ?_, b⟩
  jvm_step X.here [X.here.top, hx, hb, d, e', Value.isRef]
  exact a
theorem r_ist18 {G : zG} {cc : ByteArray} {own : String} {ret : Option FieldType} {nL fr lc : Nat} (C : zC G cc own ret nL fr lc) {M : zM} {r : List (Option Value)} {st : List Value} {pc : Nat} {a0 a1 a2 a3 a4 a5 a6 a7 a8 a9 a10 a11 a12 a13 a14 a15 a16 a17 q0 : Option Value} {x : Int32} (h1 : zc1 a17 = true) (d : decode cc pc = .ok (.istore 18, 2)) (k : VJ G M (pc + 2) (a0 :: a1 :: a2 :: a3 :: a4 :: a5 :: a6 :: a7 :: a8 :: a9 :: a10 :: a11 :: a12 :: a13 :: a14 :: a15 :: a16 :: a17 :: some (.int x) :: r) st) : VJ G M pc (a0 :: a1 :: a2 :: a3 :: a4 :: a5 :: a6 :: a7 :: a8 :: a9 :: a10 :: a11 :: a12 :: a13 :: a14 :: a15 :: a16 :: a17 :: q0 :: r) (.int x :: st) := by
  obtain ⟨sd, E, P, l, p, e, R, s, m, args, below, meth, c⟩ := G
  obtain ⟨hx, hb, hr, hml, hown, hts, hK, hN, hlk, hR⟩ := C
  intro H locs ls hP hD hS hl
  obtain ⟨ls', e', h'⟩ := lh_store1 (v := .int x) (i := 18) hl (by simp) rfl (lh_c1 (lo := (a0 :: a1 :: a2 :: a3 :: a4 :: a5 :: a6 :: a7 :: a8 :: a9 :: a10 :: a11 :: a12 :: a13 :: a14 :: a15 :: a16 :: a17 :: q0 :: r)) (i := 18) (Or.inr ⟨17, _, rfl, rfl, h1⟩))
  intro T hT X
  obtain ⟨t, a, b⟩ := k H locs ls' hP hD hS h' T hT X
  refine ⟨t, ?_, b⟩
  jvm_step X.here [X.here.top, hx, hb, d, e', Value.isRef]
  exact a
theorem r_ist19 {G : zG} {cc : ByteArray} {own : String} {ret : Option FieldType} {nL fr lc : Nat} (C : zC G cc own ret nL fr lc) {M : zM} {r : List (Option Value)} {st : List Value} {pc : Nat} {a0 a1 a2 a3 a4 a5 a6 a7 a8 a9 a10 a11 a12 a13 a14 a15 a16 a17 a18 q0 : Option Value} {x : Int32} (h1 : zc1 a18 = true) (d : decode cc pc = .ok (.istore 19, 2)) (k : VJ G M (pc + 2) (a0 :: a1 :: a2 :: a3 :: a4 :: a5 :: a6 :: a7 :: a8 :: a9 :: a10 :: a11 :: a12 :: a13 :: a14 :: a15 :: a16 :: a17 :: a18 :: some (.int x) :: r) st) : VJ G M pc (a0 :: a1 :: a2 :: a3 :: a4 :: a5 :: a6 :: a7 :: a8 :: a9 :: a10 :: a11 :: a12 :: a13 :: a14 :: a15 :: a16 :: a17 :: a18 :: q0 :: r) (.int x :: st) := by
  obtain ⟨sd, E, P, l, p, e, R, s, m, args, below, meth, c⟩ := G
  obtain ⟨hx, hb, hr, hml, hown, hts, hK, hN, hlk, hR⟩ := C
  intro H locs ls hP hD hS hl
  obtain ⟨ls', e', h'⟩ := lh_store1 (v := .int x) (i := 19) hl (by simp) rfl (lh_c1 (lo := (a0 :: a1 :: a2 :: a3 :: a4 :: a5 :: a6 :: a7 :: a8 :: a9 :: a10 :: a11 :: a12 :: a13 :: a14 :: a15 :: a16 :: a17 :: a18 :: q0 :: r)) (i := 19) (Or.inr ⟨18, _, rfl, rfl, h1⟩))
  intro T hT X
  obtain ⟨t, a, b⟩ := k H locs ls' hP hD hS h' T hT X
  refine ⟨t, ?_, b⟩
  jvm_step X.here [X.here.top, hx, hb, d, e', Value.isRef]
  exact a
theorem r_ist20 {G : zG} {cc : ByteArray} {own : String} {ret : Option FieldType} {nL fr lc : Nat} (C : zC G cc own ret nL fr lc) {M : zM} {r : List (Option Value)} {st : List Value} {pc : Nat} {a0 a1 a2 a3 a4 a5 a6 a7 a8 a9 a10 a11 a12 a13 a14 a15 a16 a17 a18 a19 q0 : Option Value} {x : Int32} (h1 : zc1 a19 = true) (d : decode cc pc = .ok (.istore 20, 2)) (k : VJ G M (pc + 2) (a0 :: a1 :: a2 :: a3 :: a4 :: a5 :: a6 :: a7 :: a8 :: a9 :: a10 :: a11 :: a12 :: a13 :: a14 :: a15 :: a16 :: a17 :: a18 :: a19 :: some (.int x) :: r) st) : VJ G M pc (a0 :: a1 :: a2 :: a3 :: a4 :: a5 :: a6 :: a7 :: a8 :: a9 :: a10 :: a11 :: a12 :: a13 :: a14 :: a15 :: a16 :: a17 :: a18 :: a19 :: q0 :: r) (.int x :: st) := by
  obtain ⟨sd, E, P, l, p, e, R, s, m, args, below, meth, c⟩ := G
  obtain ⟨hx, hb, hr, hml, hown, hts, hK, hN, hlk, hR⟩ := C
  intro H locs ls hP hD hS hl
  obtain ⟨ls', e', h'⟩ := lh_store1 (v := .int x) (i := 20) hl (by simp) rfl (lh_c1 (lo := (a0 :: a1 :: a2 :: a3 :: a4 :: a5 :: a6 :: a7 :: a8 :: a9 :: a10 :: a11 :: a12 :: a13 :: a14 :: a15 :: a16 :: a17 :: a18 :: a19 :: q0 :: r)) (i := 20) (Or.inr ⟨19, _, rfl, rfl, h1⟩))
  intro T hT X
  obtain ⟨t, a, b⟩ := k H locs ls' hP hD hS h' T hT X
  refine ⟨t, ?_, b⟩
  jvm_step X.here [X.here.top, hx, hb, d, e', Value.isRef]
  exact a
theorem r_ist21 {G : zG} {cc : ByteArray} {own : String} {ret : Option FieldType} {nL fr lc : Nat} (C : zC G cc own ret nL fr lc) {M : zM} {r : List (Option Value)} {st : List Value} {pc : Nat} {a0 a1 a2 a3 a4 a5 a6 a7 a8 a9 a10 a11 a12 a13 a14 a15 a16 a17 a18 a19 a20 q0 : Option Value} {x : Int32} (h1 : zc1 a20 = true) (d : decode cc pc = .ok (.istore 21, 2)) (k : VJ G M (pc + 2) (a0 :: a1 :: a2 :: a3 :: a4 :: a5 :: a6 :: a7 :: a8 :: a9 :: a10 :: a11 :: a12 :: a13 :: a14 :: a15 :: a16 :: a17 :: a18 :: a19 :: a20 :: some (.int x) :: r) st) : VJ G M pc (a0 :: a1 :: a2 :: a3 :: a4 :: a5 :: a6 :: a7 :: a8 :: a9 :: a10 :: a11 :: a12 :: a13 :: a14 :: a15 :: a16 :: a17 :: a18 :: a19 :: a20 :: q0 :: r) (.int x :: st) := by
  obtain ⟨sd, E, P, l, p, e, R, s, m, args, below, meth, c⟩ := G
  obtain ⟨hx, hb, hr, hml, hown, hts, hK, hN, hlk, hR⟩ := C
  intro H locs ls hP hD hS hl
  obtain ⟨ls', e', h'⟩ := lh_store1 (v := .int x) (i := 21) hl (by simp) rfl (lh_c1 (lo := (a0 :: a1 :: a2 :: a3 :: a4 :: a5 :: a6 :: a7 :: a8 :: a9 :: a10 :: a11 :: a12 :: a13 :: a14 :: a15 :: a16 :: a17 :: a18 :: a19 :: a20 :: q0 :: r)) (i := 21) (Or.inr ⟨20, _, rfl, rfl, h1⟩))
  intro T hT X
  obtain ⟨t, a, b⟩ := k H locs ls' hP hD hS h' T hT X
  refine ⟨t, ?_, b⟩
  jvm_step X.here [X.here.top, hx, hb, d, e', Value.isRef]
  exact a
theorem r_ast0 {G : zG} {cc : ByteArray} {own : String} {ret : Option FieldType} {nL fr lc : Nat} (C : zC G cc own ret nL fr lc) {M : zM} {r : List (Option Value)} {st : List Value} {pc : Nat} { q0 : Option Value} {x : Nat} (d : decode cc pc = .ok (.astore_n 0, 1)) (k : VJ G M (pc + 1) (some (.ref x) :: r) st) : VJ G M pc (q0 :: r) (.ref x :: st) := by
  obtain ⟨sd, E, P, l, p, e, R, s, m, args, below, meth, c⟩ := G
  obtain ⟨hx, hb, hr, hml, hown, hts, hK, hN, hlk, hR⟩ := C
  intro H locs ls hP hD hS hl
  obtain ⟨ls', e', h'⟩ := lh_store1 (v := .ref x) (i := 0) hl (by simp) rfl (lh_c1 (lo := (q0 :: r)) (i := 0) (Or.inl rfl))
  intro T hT X
  obtain ⟨t, a, b⟩ := k H locs ls' hP hD hS h' T hT X
  refine ⟨t, ?_, b⟩
  jvm_step X.here [X.here.top, hx, hb, d, e', Value.isRef]
  exact a
theorem r_ast1 {G : zG} {cc : ByteArray} {own : String} {ret : Option FieldType} {nL fr lc : Nat} (C : zC G cc own ret nL fr lc) {M : zM} {r : List (Option Value)} {st : List Value} {pc : Nat} {a0 q0 : Option Value} {x : Nat} (h1 : zc1 a0 = true) (d : decode cc pc = .ok (.astore_n 1, 1)) (k : VJ G M (pc + 1) (a0 :: some (.ref x) :: r) st) : VJ G M pc (a0 :: q0 :: r) (.ref x :: st) := by
  obtain ⟨sd, E, P, l, p, e, R, s, m, args, below, meth, c⟩ := G
  obtain ⟨hx, hb, hr, hml, hown, hts, hK, hN, hlk, hR⟩ := C
  intro H locs ls hP hD hS hl
  obtain ⟨ls', e', h'⟩ := lh_store1 (v := .ref x) (i := 1) hl (by simp) rfl (lh_c1 (lo := (a0 :: q0 :: r)) (i := 1) (Or.inr ⟨0, _, rfl, rfl, h1⟩))
  intro T hT X
  obtain ⟨t, a, b⟩ := k H locs ls' hP hD hS h' T hT X
  refine ⟨t, ?_, b⟩
  jvm_step X.here [X.here.top, hx, hb, d, e', Value.isRef]
  exact a
theorem r_ast2 {G : zG} {cc : ByteArray} {own : String} {ret : Option FieldType} {nL fr lc : Nat} (C : zC G cc own ret nL fr lc) {M : zM} {r : List (Option Value)} {st : List Value} {pc : Nat} {a0 a1 q0 : Option Value} {x : Nat} (h1 : zc1 a1 = true) (d : decode cc pc = .ok (.astore_n 2, 1)) (k : VJ G M (pc + 1) (a0 :: a1 :: some (.ref x) :: r) st) : VJ G M pc (a0 :: a1 :: q0 :: r) (.ref x :: st) := by
  obtain ⟨sd, E, P, l, p, e, R, s, m, args, below, meth, c⟩ := G
  obtain ⟨hx, hb, hr, hml, hown, hts, hK, hN, hlk, hR⟩ := C
  intro H locs ls hP hD hS hl
  obtain ⟨ls', e', h'⟩ := lh_store1 (v := .ref x) (i := 2) hl (by simp) rfl (lh_c1 (lo := (a0 :: a1 :: q0 :: r)) (i := 2) (Or.inr ⟨1, _, rfl, rfl, h1⟩))
  intro T hT X
  obtain ⟨t, a, b⟩ := k H locs ls' hP hD hS h' T hT X
  refine ⟨t, ?_, b⟩
  jvm_step X.here [X.here.top, hx, hb, d, e', Value.isRef]
  exact a
theorem r_ast3 {G : zG} {cc : ByteArray} {own : String} {ret : Option FieldType} {nL fr lc : Nat} (C : zC G cc own ret nL fr lc) {M : zM} {r : List (Option Value)} {st : List Value} {pc : Nat} {a0 a1 a2 q0 : Option Value} {x : Nat} (h1 : zc1 a2 = true) (d : decode cc pc = .ok (.astore_n 3, 1)) (k : VJ G M (pc + 1) (a0 :: a1 :: a2 :: some (.ref x) :: r) st) : VJ G M pc (a0 :: a1 :: a2 :: q0 :: r) (.ref x :: st) := by
  obtain ⟨sd, E, P, l, p, e, R, s, m, args, below, meth, c⟩ := G
  obtain ⟨hx, hb, hr, hml, hown, hts, hK, hN, hlk, hR⟩ := C
  intro H locs ls hP hD hS hl
  obtain ⟨ls', e', h'⟩ := lh_store1 (v := .ref x) (i := 3) hl (by simp) rfl (lh_c1 (lo := (a0 :: a1 :: a2 :: q0 :: r)) (i := 3) (Or.inr ⟨2, _, rfl, rfl, h1⟩))
  intro T hT X
  obtain ⟨t, a, b⟩ := k H locs ls' hP hD hS h' T hT X
  refine ⟨t, ?_, b⟩
  jvm_step X.here [X.here.top, hx, hb, d, e', Value.isRef]
  exact a
theorem r_ast4 {G : zG} {cc : ByteArray} {own : String} {ret : Option FieldType} {nL fr lc : Nat} (C : zC G cc own ret nL fr lc) {M : zM} {r : List (Option Value)} {st : List Value} {pc : Nat} {a0 a1 a2 a3 q0 : Option Value} {x : Nat} (h1 : zc1 a3 = true) (d : decode cc pc = .ok (.astore 4, 2)) (k : VJ G M (pc + 2) (a0 :: a1 :: a2 :: a3 :: some (.ref x) :: r) st) : VJ G M pc (a0 :: a1 :: a2 :: a3 :: q0 :: r) (.ref x :: st) := by
  obtain ⟨sd, E, P, l, p, e, R, s, m, args, below, meth, c⟩ := G
  obtain ⟨hx, hb, hr, hml, hown, hts, hK, hN, hlk, hR⟩ := C
  intro H locs ls hP hD hS hl
  obtain ⟨ls', e', h'⟩ := lh_store1 (v := .ref x) (i := 4) hl (by simp) rfl (lh_c1 (lo := (a0 :: a1 :: a2 :: a3 :: q0 :: r)) (i := 4) (Or.inr ⟨3, _, rfl, rfl, h1⟩))
  intro T hT X
  obtain ⟨t, a, b⟩ := k H locs ls' hP hD hS h' T hT X
  refine ⟨t, ?_, b⟩
  jvm_step X.here [X.here.top, hx, hb, d, e', Value.isRef]
  exact a
theorem r_ast5 {G : zG} {cc : ByteArray} {own : String} {ret : Option FieldType} {nL fr lc : Nat} (C : zC G cc own ret nL fr lc) {M : zM} {r : List (Option Value)} {st : List Value} {pc : Nat} {a0 a1 a2 a3 a4 q0 : Option Value} {x : Nat} (h1 : zc1 a4 = true) (d : decode cc pc = .ok (.astore 5, 2)) (k : VJ G M (pc + 2) (a0 :: a1 :: a2 :: a3 :: a4 :: some (.ref x) :: r) st) : VJ G M pc (a0 :: a1 :: a2 :: a3 :: a4 :: q0 :: r) (.ref x :: st) := by
  obtain ⟨sd, E, P, l, p, e, R, s, m, args, below, meth, c⟩ := G
  obtain ⟨hx, hb, hr, hml, hown, hts, hK, hN, hlk, hR⟩ := C
  intro H locs ls hP hD hS hl
  obtain ⟨ls', e', h'⟩ := lh_store1 (v := .ref x) (i := 5) hl (by simp) rfl (lh_c1 (lo := (a0 :: a1 :: a2 :: a3 :: a4 :: q0 :: r)) (i := 5) (Or.inr ⟨4, _, rfl, rfl, h1⟩))
  intro T hT X
  obtain ⟨t, a, b⟩ := k H locs ls' hP hD hS h' T hT X
  refine ⟨t, ?_, b⟩
  jvm_step X.here [X.here.top, hx, hb, d, e', Value.isRef]
  exact a
theorem r_ast6 {G : zG} {cc : ByteArray} {own : String} {ret : Option FieldType} {nL fr lc : Nat} (C : zC G cc own ret nL fr lc) {M : zM} {r : List (Option Value)} {st : List Value} {pc : Nat} {a0 a1 a2 a3 a4 a5 q0 : Option Value} {x : Nat} (h1 : zc1 a5 = true) (d : decode cc pc = .ok (.astore 6, 2)) (k : VJ G M (pc + 2) (a0 :: a1 :: a2 :: a3 :: a4 :: a5 :: some (.ref x) :: r) st) : VJ G M pc (a0 :: a1 :: a2 :: a3 :: a4 :: a5 :: q0 :: r) (.ref x :: st) := by
  obtain ⟨sd, E, P, l, p, e, R, s, m, args, below, meth, c⟩ := G
  obtain ⟨hx, hb, hr, hml, hown, hts, hK, hN, hlk, hR⟩ := C
  intro H locs ls hP hD hS hl
  obtain ⟨ls', e', h'⟩ := lh_store1 (v := .ref x) (i := 6) hl (by simp) rfl (lh_c1 (lo := (a0 :: a1 :: a2 :: a3 :: a4 :: a5 :: q0 :: r)) (i := 6) (Or.inr ⟨5, _, rfl, rfl, h1⟩))
  intro T hT X
  obtain ⟨t, a, b⟩ := k H locs ls' hP hD hS h' T hT X
  refine ⟨t, ?_, b⟩
  jvm_step X.here [X.here.top, hx, hb, d, e', Value.isRef]
  exact a
theorem r_ast7 {G : zG} {cc : ByteArray} {own : String} {ret : Option FieldType} {nL fr lc : Nat} (C : zC G cc own ret nL fr lc) {M : zM} {r : List (Option Value)} {st : List Value} {pc : Nat} {a0 a1 a2 a3 a4 a5 a6 q0 : Option Value} {x : Nat} (h1 : zc1 a6 = true) (d : decode cc pc = .ok (.astore 7, 2)) (k : VJ G M (pc + 2) (a0 :: a1 :: a2 :: a3 :: a4 :: a5 :: a6 :: some (.ref x) :: r) st) : VJ G M pc (a0 :: a1 :: a2 :: a3 :: a4 :: a5 :: a6 :: q0 :: r) (.ref x :: st) := by
  obtain ⟨sd, E, P, l, p, e, R, s, m, args, below, meth, c⟩ := G
  obtain ⟨hx, hb, hr, hml, hown, hts, hK, hN, hlk, hR⟩ := C
  intro H locs ls hP hD hS hl
  obtain ⟨ls', e', h'⟩ := lh_store1 (v := .ref x) (i := 7) hl (by simp) rfl (lh_c1 (lo := (a0 :: a1 :: a2 :: a3 :: a4 :: a5 :: a6 :: q0 :: r)) (i := 7) (Or.inr ⟨6, _, rfl, rfl, h1⟩))
  intro T hT X
  obtain ⟨t, a, b⟩ := k H locs ls' hP hD hS h' T hT X
  refine ⟨t, ?_, b⟩
  jvm_step X.here [X.here.top, hx, hb, d, e', Value.isRef]
  exact a
theorem r_ast8 {G : zG} {cc : ByteArray} {own : String} {ret : Option FieldType} {nL fr lc : Nat} (C : zC G cc own ret nL fr lc) {M : zM} {r : List (Option Value)} {st : List Value} {pc : Nat} {a0 a1 a2 a3 a4 a5 a6 a7 q0 : Option Value} {x : Nat} (h1 : zc1 a7 = true) (d : decode cc pc = .ok (.astore 8, 2)) (k : VJ G M (pc + 2) (a0 :: a1 :: a2 :: a3 :: a4 :: a5 :: a6 :: a7 :: some (.ref x) :: r) st) : VJ G M pc (a0 :: a1 :: a2 :: a3 :: a4 :: a5 :: a6 :: a7 :: q0 :: r) (.ref x :: st) := by
  obtain ⟨sd, E, P, l, p, e, R, s, m, args, below, meth, c⟩ := G
  obtain ⟨hx, hb, hr, hml, hown, hts, hK, hN, hlk, hR⟩ := C
  intro H locs ls hP hD hS hl
  obtain ⟨ls', e', h'⟩ := lh_store1 (v := .ref x) (i := 8) hl (by simp) rfl (lh_c1 (lo := (a0 :: a1 :: a2 :: a3 :: a4 :: a5 :: a6 :: a7 :: q0 :: r)) (i := 8) (Or.inr ⟨7, _, rfl, rfl, h1⟩))
  intro T hT X
  obtain ⟨t, a, b⟩ := k H locs ls' hP hD hS h' T hT X
  refine ⟨t, ?_, b⟩
  jvm_step X.here [X.here.top, hx, hb, d, e', Value.isRef]
  exact a
theorem r_ast9 {G : zG} {cc : ByteArray} {own : String} {ret : Option FieldType} {nL fr lc : Nat} (C : zC G cc own ret nL fr lc) {M : zM} {r : List (Option Value)} {st : List Value} {pc : Nat} {a0 a1 a2 a3 a4 a5 a6 a7 a8 q0 : Option Value} {x : Nat} (h1 : zc1 a8 = true) (d : decode cc pc = .ok (.astore 9, 2)) (k : VJ G M (pc + 2) (a0 :: a1 :: a2 :: a3 :: a4 :: a5 :: a6 :: a7 :: a8 :: some (.ref x) :: r) st) : VJ G M pc (a0 :: a1 :: a2 :: a3 :: a4 :: a5 :: a6 :: a7 :: a8 :: q0 :: r) (.ref x :: st) := by
  obtain ⟨sd, E, P, l, p, e, R, s, m, args, below, meth, c⟩ := G
  obtain ⟨hx, hb, hr, hml, hown, hts, hK, hN, hlk, hR⟩ := C
  intro H locs ls hP hD hS hl
  obtain ⟨ls', e', h'⟩ := lh_store1 (v := .ref x) (i := 9) hl (by simp) rfl (lh_c1 (lo := (a0 :: a1 :: a2 :: a3 :: a4 :: a5 :: a6 :: a7 :: a8 :: q0 :: r)) (i := 9) (Or.inr ⟨8, _, rfl, rfl, h1⟩))
  intro T hT X
  obtain ⟨t, a, b⟩ := k H locs ls' hP hD hS h' T hT X
  refine ⟨t, ?_, b⟩
  jvm_step X.here [X.here.top, hx, hb, d, e', Value.isRef]
  exact a
theorem r_ast10 {G : zG} {cc : ByteArray} {own : String} {ret : Option FieldType} {nL fr lc : Nat} (C : zC G cc own ret nL fr lc) {M : zM} {r : List (Option Value)} {st : List Value} {pc : Nat} {a0 a1 a2 a3 a4 a5 a6 a7 a8 a9 q0 : Option Value} {x : Nat} (h1 : zc1 a9 = true) (d : decode cc pc = .ok (.astore 10, 2)) (k : VJ G M (pc + 2) (a0 :: a1 :: a2 :: a3 :: a4 :: a5 :: a6 :: a7 :: a8 :: a9 :: some (.ref x) :: r) st) : VJ G M pc (a0 :: a1 :: a2 :: a3 :: a4 :: a5 :: a6 :: a7 :: a8 :: a9 :: q0 :: r) (.ref x :: st) := by
  obtain ⟨sd, E, P, l, p, e, R, s, m, args, below, meth, c⟩ := G
  obtain ⟨hx, hb, hr, hml, hown, hts, hK, hN, hlk, hR⟩ := C
  intro H locs ls hP hD hS hl
  obtain ⟨ls', e', h'⟩ := lh_store1 (v := .ref x) (i := 10) hl (by simp) rfl (lh_c1 (lo := (a0 :: a1 :: a2 :: a3 :: a4 :: a5 :: a6 :: a7 :: a8 :: a9 :: q0 :: r)) (i := 10) (Or.inr ⟨9, _, rfl, rfl, h1⟩))
  intro T hT X
  obtain ⟨t, a, b⟩ := k H locs ls' hP hD hS h' T hT X
  refine ⟨t, ?_, b⟩
  jvm_step X.here [X.here.top, hx, hb, d, e', Value.isRef]
  exact a
theorem r_ast11 {G : zG} {cc : ByteArray} {own : String} {ret : Option FieldType} {nL fr lc : Nat} (C : zC G cc own ret nL fr lc) {M : zM} {r : List (Option Value)} {st : List Value} {pc : Nat} {a0 a1 a2 a3 a4 a5 a6 a7 a8 a9 a10 q0 : Option Value} {x : Nat} (h1 : zc1 a10 = true) (d : decode cc pc = .ok (.astore 11, 2)) (k : VJ G M (pc + 2) (a0 :: a1 :: a2 :: a3 :: a4 :: a5 :: a6 :: a7 :: a8 :: a9 :: a10 :: some (.ref x) :: r) st) : VJ G M pc (a0 :: a1 :: a2 :: a3 :: a4 :: a5 :: a6 :: a7 :: a8 :: a9 :: a10 :: q0 :: r) (.ref x :: st) := by
  obtain ⟨sd, E, P, l, p, e, R, s, m, args, below, meth, c⟩ := G
  obtain ⟨hx, hb, hr, hml, hown, hts, hK, hN, hlk, hR⟩ := C
  intro H locs ls hP hD hS hl
  obtain ⟨ls', e', h'⟩ := lh_store1 (v := .ref x) (i := 11) hl (by simp) rfl (lh_c1 (lo := (a0 :: a1 :: a2 :: a3 :: a4 :: a5 :: a6 :: a7 :: a8 :: a9 :: a10 :: q0 :: r)) (i := 11) (Or.inr ⟨10, _, rfl, rfl, h1⟩))
  intro T hT X
  obtain ⟨t, a, b⟩ := k H locs ls' hP hD hS h' T hT X
  refine ⟨t, ?_, b⟩
  jvm_step X.here [X.here.top, hx, hb, d, e', Value.isRef]
  exact a
theorem r_ast12 {G : zG} {cc : ByteArray} {own : String} {ret : Option FieldType} {nL fr lc : Nat} (C : zC G cc own ret nL fr lc) {M : zM} {r : List (Option Value)} {st : List Value} {pc : Nat} {a0 a1 a2 a3 a4 a5 a6 a7 a8 a9 a10 a11 q0 : Option Value} {x : Nat} (h1 : zc1 a11 = true) (d : decode cc pc = .ok (.astore 12, 2)) (k : VJ G M (pc + 2) (a0 :: a1 :: a2 :: a3 :: a4 :: a5 :: a6 :: a7 :: a8 :: a9 :: a10 :: a11 :: some (.ref x) :: r) st) : VJ G M pc (a0 :: a1 :: a2 :: a3 :: a4 :: a5 :: a6 :: a7 :: a8 :: a9 :: a10 :: a11 :: q0 :: r) (.ref x :: st) := by
  obtain ⟨sd, E, P, l, p, e, R, s, m, args, below, meth, c⟩ := G
  obtain ⟨hx, hb, hr, hml, hown, hts, hK, hN, hlk, hR⟩ := C
  intro H locs ls hP hD hS hl
  obtain ⟨ls', e', h'⟩ := lh_store1 (v := .ref x) (i := 12) hl (by simp) rfl (lh_c1 (lo := (a0 :: a1 :: a2 :: a3 :: a4 :: a5 :: a6 :: a7 :: a8 :: a9 :: a10 :: a11 :: q0 :: r)) (i := 12) (Or.inr ⟨11, _, rfl, rfl, h1⟩))
  intro T hT X
  obtain ⟨t, a, b⟩ := k H locs ls' hP hD hS h' T hT X
  refine ⟨t, ?_, b⟩
  jvm_step X.here [X.here.top, hx, hb, d, e', Value.isRef]
  exact a
theorem r_ast13 {G : zG} {cc : ByteArray} {own : String} {ret : Option FieldType} {nL fr lc : Nat} (C : zC G cc own ret nL fr lc) {M : zM} {r : List (Option Value)} {st : List Value} {pc : Nat} {a0 a1 a2 a3 a4 a5 a6 a7 a8 a9 a10 a11 a12 q0 : Option Value} {x : Nat} (h1 : zc1 a12 = true) (d : decode cc pc = .ok (.astore 13, 2)) (k : VJ G M (pc + 2) (a0 :: a1 :: a2 :: a3 :: a4 :: a5 :: a6 :: a7 :: a8 :: a9 :: a10 :: a11 :: a12 :: some (.ref x) :: r) st) : VJ G M pc (a0 :: a1 :: a2 :: a3 :: a4 :: a5 :: a6 :: a7 :: a8 :: a9 :: a10 :: a11 :: a12 :: q0 :: r) (.ref x :: st) := by
  obtain ⟨sd, E, P, l, p, e, R, s, m, args, below, meth, c⟩ := G
  obtain ⟨hx, hb, hr, hml, hown, hts, hK, hN, hlk, hR⟩ := C
  intro H locs ls hP hD hS hl
  obtain ⟨ls', e', h'⟩ := lh_store1 (v := .ref x) (i := 13) hl (by simp) rfl (lh_c1 (lo := (a0 :: a1 :: a2 :: a3 :: a4 :: a5 :: a6 :: a7 :: a8 :: a9 :: a10 :: a11 :: a12 :: q0 :: r)) (i := 13) (Or.inr ⟨12, _, rfl, rfl, h1⟩))
  intro T hT X
  obtain ⟨t, a, b⟩ := k H locs ls' hP hD hS h' T hT X
  refine ⟨t, ?_, b⟩
  jvm_step X.here [X.here.top, hx, hb, d, e', Value.isRef]
  exact a
theorem r_ast14 {G : zG} {cc : ByteArray} {own : String} {ret : Option FieldType} {nL fr lc : Nat} (C : zC G cc own ret nL fr lc) {M : zM} {r : List (Option Value)} {st : List Value} {pc : Nat} {a0 a1 a2 a3 a4 a5 a6 a7 a8 a9 a10 a11 a12 a13 q0 : Option Value} {x : Nat} (h1 : zc1 a13 = true) (d : decode cc pc = .ok (.astore 14, 2)) (k : VJ G M (pc + 2) (a0 :: a1 :: a2 :: a3 :: a4 :: a5 :: a6 :: a7 :: a8 :: a9 :: a10 :: a11 :: a12 :: a13 :: some (.ref x) :: r) st) : VJ G M pc (a0 :: a1 :: a2 :: a3 :: a4 :: a5 :: a6 :: a7 :: a8 :: a9 :: a10 :: a11 :: a12 :: a13 :: q0 :: r) (.ref x :: st) := by
  obtain ⟨sd, E, P, l, p, e, R, s, m, args, below, meth, c⟩ := G
  obtain ⟨hx, hb, hr, hml, hown, hts, hK, hN, hlk, hR⟩ := C
  intro H locs ls hP hD hS hl
  obtain ⟨ls', e', h'⟩ := lh_store1 (v := .ref x) (i := 14) hl (by simp) rfl (lh_c1 (lo := (a0 :: a1 :: a2 :: a3 :: a4 :: a5 :: a6 :: a7 :: a8 :: a9 :: a10 :: a11 :: a12 :: a13 :: q0 :: r)) (i := 14) (Or.inr ⟨13, _, rfl, rfl, h1⟩))
  intro T hT X
  obtain ⟨t, a, b⟩ := k H locs ls' hP hD hS h' T hT X
  refine ⟨t, ?_, b⟩
  jvm_step X.here [X.here.top, hx, hb, d, e', Value.isRef]
  exact a
theorem r_ast15 {G : zG} {cc : ByteArray} {own : String} {ret : Option FieldType} {nL fr lc : Nat} (C : zC G cc own ret nL fr lc) {M : zM} {r : List (Option Value)} {st : List Value} {pc : Nat} {a0 a1 a2 a3 a4 a5 a6 a7 a8 a9 a10 a11 a12 a13 a14 q0 : Option Value} {x : Nat} (h1 : zc1 a14 = true) (d : decode cc pc = .ok (.astore 15, 2)) (k : VJ G M (pc + 2) (a0 :: a1 :: a2 :: a3 :: a4 :: a5 :: a6 :: a7 :: a8 :: a9 :: a10 :: a11 :: a12 :: a13 :: a14 :: some (.ref x) :: r) st) : VJ G M pc (a0 :: a1 :: a2 :: a3 :: a4 :: a5 :: a6 :: a7 :: a8 :: a9 :: a10 :: a11 :: a12 :: a13 :: a14 :: q0 :: r) (.ref x :: st) := by
  obtain ⟨sd, E, P, l, p, e, R, s, m, args, below, meth, c⟩ := G
  obtain ⟨hx, hb, hr, hml, hown, hts, hK, hN, hlk, hR⟩ := C
  intro H locs ls hP hD hS hl
  obtain ⟨ls', e', h'⟩ := lh_store1 (v := .ref x) (i := 15) hl (by simp) rfl (lh_c1 (lo := (a0 :: a1 :: a2 :: a3 :: a4 :: a5 :: a6 :: a7 :: a8 :: a9 :: a10 :: a11 :: a12 :: a13 :: a14 :: q0 :: r)) (i := 15) (Or.inr ⟨14, _, rfl, rfl, h1⟩))
  intro T hT X
  obtain ⟨t, a, b⟩ := k H locs ls' hP hD hS h' T hT X
  refine ⟨t, ?_, b⟩
  jvm_step X.here [X.here.top, hx, hb, d, e', Value.isRef]
  exact a
theorem r_ast16 {G : zG} {cc : ByteArray} {own : String} {ret : Option FieldType} {nL fr lc : Nat} (C : zC G cc own ret nL fr lc) {M : zM} {r : List (Option Value)} {st : List Value} {pc : Nat} {a0 a1 a2 a3 a4 a5 a6 a7 a8 a9 a10 a11 a12 a13 a14 a15 q0 : Option Value} {x : Nat} (h1 : zc1 a15 = true) (d : decode cc pc = .ok (.astore 16, 2)) (k : VJ G M (pc + 2) (a0 :: a1 :: a2 :: a3 :: a4 :: a5 :: a6 :: a7 :: a8 :: a9 :: a10 :: a11 :: a12 :: a13 :: a14 :: a15 :: some (.ref x) :: r) st) : VJ G M pc (a0 :: a1 :: a2 :: a3 :: a4 :: a5 :: a6 :: a7 :: a8 :: a9 :: a10 :: a11 :: a12 :: a13 :: a14 :: a15 :: q0 :: r) (.ref x :: st) := by
  obtain ⟨sd, E, P, l, p, e, R, s, m, args, below, meth, c⟩ := G
  obtain ⟨hx, hb, hr, hml, hown, hts, hK, hN, hlk, hR⟩ := C
  intro H locs ls hP hD hS hl
  obtain ⟨ls', e', h'⟩ := lh_store1 (v := .ref x) (i := 16) hl (by simp) rfl (lh_c1 (lo := (a0 :: a1 :: a2 :: a3 :: a4 :: a5 :: a6 :: a7 :: a8 :: a9 :: a10 :: a11 :: a12 :: a13 :: a14 :: a15 :: q0 :: r)) (i := 16) (Or.inr ⟨15, _, rfl, rfl, h1⟩))
  intro T hT X
  obtain ⟨t, a, b⟩ := k H locs ls' hP hD hS h' T hT X
  refine ⟨t, ?_, b⟩
  jvm_step X.here [X.here.top, hx, hb, d, e', Value.isRef]
  exact a
theorem r_ast17 {G : zG} {cc : ByteArray} {own : String} {ret : Option FieldType} {nL fr lc : Nat} (C : zC G cc own ret nL fr lc) {M : zM} {r : List (Option Value)} {st : List Value} {pc : Nat} {a0 a1 a2 a3 a4 a5 a6 a7 a8 a9 a10 a11 a12 a13 a14 a15 a16 q0 : Option Value} {x : Nat} (h1 : zc1 a16 = true) (d : decode cc pc = .ok (.astore 17, 2)) (k : VJ G M (pc + 2) (a0 :: a1 :: a2 :: a3 :: a4 :: a5 :: a6 :: a7 :: a8 :: a9 :: a10 :: a11 :: a12 :: a13 :: a14 :: a15 :: a16 :: some (.ref x) :: r) st) : VJ G M pc (a0 :: a1 :: a2 :: a3 :: a4 :: a5 :: a6 :: a7 :: a8 :: a9 :: a10 :: a11 :: a12 :: a13 :: a14 :: a15 :: a16 :: q0 :: r) (.ref x :: st) := by
  obtain ⟨sd, E, P, l, p, e, R, s, m, args, below, meth, c⟩ := G
  obtain ⟨hx, hb, hr, hml, hown, hts, hK, hN, hlk, hR⟩ := C
  intro H locs ls hP hD hS hl
  obtain ⟨ls', e', h'⟩ := lh_store1 (v := .ref x) (i := 17) hl (by simp) rfl (lh_c1 (lo := (a0 :: a1 :: a2 :: a3 :: a4 :: a5 :: a6 :: a7 :: a8 :: a9 :: a10 :: a11 :: a12 :: a13 :: a14 :: a15 :: a16 :: q0 :: r)) (i := 17) (Or.inr ⟨16, _, rfl, rfl, h1⟩))
  intro T hT X
  obtain ⟨t, a, b⟩ := k H locs ls' hP hD hS h' T hT X
  refine ⟨t, ?_, b⟩
  jvm_step X.here [X.here.top, hx, hb, d, e', Value.isRef]
  exact a
theorem r_ast18 {G : zG} {cc : ByteArray} {own : String} {ret : Option FieldType} {nL fr lc : Nat} (C : zC G cc own ret nL fr lc) {M : zM} {r : List (Option Value)} {st : List Value} {pc : Nat} {a0 a1 a2 a3 a4 a5 a6 a7 a8 a9 a10 a11 a12 a13 a14 a15 a16 a17 q0 : Option Value} {x : Nat} (h1 : zc1 a17 = true) (d : decode cc pc = .ok (.astore 18, 2)) (k : VJ G M (pc + 2) (a0 :: a1 :: a2 :: a3 :: a4 :: a5 :: a6 :: a7 :: a8 :: a9 :: a10 :: a11 :: a12 :: a13 :: a14 :: a15 :: a16 :: a17 :: some (.ref x) :: r) st) : VJ G M pc (a0 :: a1 :: a2 :: a3 :: a4 :: a5 :: a6 :: a7 :: a8 :: a9 :: a10 :: a11 :: a12 :: a13 :: a14 :: a15 :: a16 :: a17 :: q0 :: r) (.ref x :: st) := by
  obtain ⟨sd, E, P, l, p, e, R, s, m, args, below, meth, c⟩ := G
  obtain ⟨hx, hb, hr, hml, hown, hts, hK, hN, hlk, hR⟩ := C
  intro H locs ls hP hD hS hl
  obtain ⟨ls', e', h'⟩ := lh_store1 (v := .ref x) (i := 18) hl (by simp) rfl (lh_c1 (lo := (a0 :: a1 :: a2 :: a3 :: a4 :: a5 :: a6 :: a7 :: a8 :: a9 :: a10 :: a11 :: a12 :: a13 :: a14 :: a15 :: a16 :: a17 :: q0 :: r)) (i := 18) (Or.inr ⟨17, _, rfl, rfl, h1⟩))
  intro T hT X
  obtain ⟨t, a, b⟩ := k H locs ls' hP hD hS h' T hT X
  refine ⟨t, ?_, b⟩
  jvm_step X.here [X.here.top, hx, hb, d, e', Value.isRef]
  exact a
theorem r_ast19 {G : zG} {cc : ByteArray} {own : String} {ret : Option FieldType} {nL fr lc : Nat} (C : zC G cc own ret nL fr lc) {M : zM} {r : List (Option Value)} {st : List Value} {pc : Nat} {a0 a1 a2 a3 a4 a5 a6 a7 a8 a9 a10 a11 a12 a13 a14 a15 a16 a17 a18 q0 : Option Value} {x : Nat} (h1 : zc1 a18 = true) (d : decode cc pc = .ok (.astore 19, 2)) (k : VJ G M (pc + 2) (a0 :: a1 :: a2 :: a3 :: a4 :: a5 :: a6 :: a7 :: a8 :: a9 :: a10 :: a11 :: a12 :: a13 :: a14 :: a15 :: a16 :: a17 :: a18 :: some (.ref x) :: r) st) : VJ G M pc (a0 :: a1 :: a2 :: a3 :: a4 :: a5 :: a6 :: a7 :: a8 :: a9 :: a10 :: a11 :: a12 :: a13 :: a14 :: a15 :: a16 :: a17 :: a18 :: q0 :: r) (.ref x :: st) := by
  obtain ⟨sd, E, P, l, p, e, R, s, m, args, below, meth, c⟩ := G
  obtain ⟨hx, hb, hr, hml, hown, hts, hK, hN, hlk, hR⟩ := C
  intro H locs ls hP hD hS hl
  obtain ⟨ls', e', h'⟩ := lh_store1 (v := .ref x) (i := 19) hl (by simp) rfl (lh_c1 (lo := (a0 :: a1 :: a2 :: a3 :: a4 :: a5 :: a6 :: a7 :: a8 :: a9 :: a10 :: a11 :: a12 :: a13 :: a14 :: a15 :: a16 :: a17 :: a18 :: q0 :: r)) (i := 19) (Or.inr ⟨18, _, rfl, rfl, h1⟩))
  intro T hT X
  obtain ⟨t, a, b⟩ := k H locs ls' hP hD hS h' T hT X
  refine ⟨t, ?_, b⟩
  jvm_step X.here [X.here.top, hx, hb, d, e', Value.isRef]
  exact a
theorem r_ast20 {G : zG} {cc : ByteArray} {own : String} {ret : Option FieldType} {nL fr lc : Nat} (C : zC G cc own ret nL fr lc) {M : zM} {r : List (Option Value)} {st : List Value} {pc : Nat} {a0 a1 a2 a3 a4 a5 a6 a7 a8 a9 a10 a11 a12 a13 a14 a15 a16 a17 a18 a19 q0 : Option Value} {x : Nat} (h1 : zc1 a19 = true) (d : decode cc pc = .ok (.astore 20, 2)) (k : VJ G M (pc + 2) (a0 :: a1 :: a2 :: a3 :: a4 :: a5 :: a6 :: a7 :: a8 :: a9 :: a10 :: a11 :: a12 :: a13 :: a14 :: a15 :: a16 :: a17 :: a18 :: a19 :: some (.ref x) :: r) st) : VJ G M pc (a0 :: a1 :: a2 :: a3 :: a4 :: a5 :: a6 :: a7 :: a8 :: a9 :: a10 :: a11 :: a12 :: a13 :: a14 :: a15 :: a16 :: a17 :: a18 :: a19 :: q0 :: r) (.ref x :: st) := by
  obtain ⟨sd, E, P, l, p, e, R, s, m, args, below, meth, c⟩ := G
  obtain ⟨hx, hb, hr, hml, hown, hts, hK, hN, hlk, hR⟩ := C
  intro H locs ls hP hD hS hl
  obtain ⟨ls', e', h'⟩ := lh_store1 (v := .ref x) (i := 20) hl (by simp) rfl (lh_c1 (lo := (a0 :: a1 :: a2 :: a3 :: a4 :: a5 :: a6 :: a7 :: a8 :: a9 :: a10 :: a11 :: a12 :: a13 :: a14 :: a15 :: a16 :: a17 :: a18 :: a19 :: q0 :: r)) (i := 20) (Or.inr ⟨19, _, rfl, rfl, h1⟩))
  intro T hT X
  obtain ⟨t, a, b⟩ := k H locs ls' hP hD hS h' T hT X
  refine ⟨t, ?_, b⟩
  jvm_step X.here [X.here.top, hx, hb, d, e', Value.isRef]
  exact a
theorem r_ast21 {G : zG} {cc : ByteArray} {own : String} {ret : Option FieldType} {nL fr lc : Nat} (C : zC G cc own ret nL fr lc) {M : zM} {r : List (Option Value)} {st : List Value} {pc : Nat} {a0 a1 a2 a3 a4 a5 a6 a7 a8 a9 a10 a11 a12 a13 a14 a15 a16 a17 a18 a19 a20 q0 : Option Value} {x : Nat} (h1 : zc1 a20 = true) (d : decode cc pc = .ok (.astore 21, 2)) (k : VJ G M (pc + 2) (a0 :: a1 :: a2 :: a3 :: a4 :: a5 :: a6 :: a7 :: a8 :: a9 :: a10 :: a11 :: a12 :: a13 :: a14 :: a15 :: a16 :: a17 :: a18 :: a19 :: a20 :: some (.ref x) :: r) st) : VJ G M pc (a0 :: a1 :: a2 :: a3 :: a4 :: a5 :: a6 :: a7 :: a8 :: a9 :: a10 :: a11 :: a12 :: a13 :: a14 :: a15 :: a16 :: a17 :: a18 :: a19 :: a20 :: q0 :: r) (.ref x :: st) := by
  obtain ⟨sd, E, P, l, p, e, R, s, m, args, below, meth, c⟩ := G
  obtain ⟨hx, hb, hr, hml, hown, hts, hK, hN, hlk, hR⟩ := C
  intro H locs ls hP hD hS hl
  obtain ⟨ls', e', h'⟩ := lh_store1 (v := .ref x) (i := 21) hl (by simp) rfl (lh_c1 (lo := (a0 :: a1 :: a2 :: a3 :: a4 :: a5 :: a6 :: a7 :: a8 :: a9 :: a10 :: a11 :: a12 :: a13 :: a14 :: a15 :: a16 :: a17 :: a18 :: a19 :: a20 :: q0 :: r)) (i := 21) (Or.inr ⟨20, _, rfl, rfl, h1⟩))
  intro T hT X
  obtain ⟨t, a, b⟩ := k H locs ls' hP hD hS h' T hT X
  refine ⟨t, ?_, b⟩
  jvm_step X.here [X.here.top, hx, hb, d, e', Value.isRef]
  exact a
theorem r_lst0 {G : zG} {cc : ByteArray} {own : String} {ret : Option FieldType} {nL fr lc : Nat} (C : zC G cc own ret nL fr lc) {M : zM} {r : List (Option Value)} {st : List Value} {pc : Nat} { q0 q1 : Option Value} {x : Int64} (d : decode cc pc = .ok (.lstore_n 0, 1)) (k : VJ G M (pc + 1) (some (.long x) :: none :: r) st) : VJ G M pc (q0 :: q1 :: r) (.long x :: st) := by
  obtain ⟨sd, E, P, l, p, e, R, s, m, args, below, meth, c⟩ := G
  obtain ⟨hx, hb, hr, hml, hown, hts, hK, hN, hlk, hR⟩ := C
  intro H locs ls hP hD hS hl
  obtain ⟨ls', e', h'⟩ := lh_store2 (v := .long x) (i := 0) hl (by simp) rfl (lh_c1 (lo := (q0 :: q1 :: r)) (i := 0) (Or.inl rfl))
  intro T hT X
  obtain ⟨t, a, b⟩ := k H locs ls' hP hD hS h' T hT X
  refine ⟨t, ?_, b⟩
  jvm_step X.here [X.here.top, hx, hb, d, e']
  exact a
theorem r_lst1 {G : zG} {cc : ByteArray} {own : String} {ret : Option FieldType} {nL fr lc : Nat} (C : zC G cc own ret nL fr lc) {M : zM} {r : List (Option Value)} {st : List Value} {pc : Nat} {a0 q0 q1 : Option Value} {x : Int64} (h1 : zc1 a0 = true) (d : decode cc pc = .ok (.lstore_n 1, 1)) (k : VJ G M (pc + 1) (a0 :: some (.long x) :: none :: r) st) : VJ G M pc (a0 :: q0 :: q1 :: r) (.long x :: st) := by
  obtain ⟨sd, E, P, l, p, e, R, s, m, args, below, meth, c⟩ := G
  obtain ⟨hx, hb, hr, hml, hown, hts, hK, hN, hlk, hR⟩ := C
  intro H locs ls hP hD hS hl
  obtain ⟨ls', e', h'⟩ := lh_store2 (v := .long x) (i := 1) hl (by simp) rfl (lh_c1 (lo := (a0 :: q0 :: q1 :: r)) (i := 1) (Or.inr ⟨0, _, rfl, rfl, h1⟩))
  intro T hT X
  obtain ⟨t, a, b⟩ := k H locs ls' hP hD hS h' T hT X
  refine ⟨t, ?_, b⟩
  jvm_step X.here [X.here.top, hx, hb, d, e']
  exact a
theorem r_lst2 {G : zG} {cc : ByteArray} {own : String} {ret : Option FieldType} {nL fr lc : Nat} (C : zC G cc own ret nL fr lc) {M : zM} {r : List (Option Value)} {st : List Value} {pc : Nat} {a0 a1 q0 q1 : Option Value} {x : Int64} (h1 : zc1 a1 = true) (d : decode cc pc = .ok (.lstore_n 2, 1)) (k : VJ G M (pc + 1) (a0 :: a1 :: some (.long x) :: none :: r) st) : VJ G M pc (a0 :: a1 :: q0 :: q1 :: r) (.long x :: st) := by
  obtain ⟨sd, E, P, l, p, e, R, s, m, args, below, meth, c⟩ := G
  obtain ⟨hx, hb, hr, hml, hown, hts, hK, hN, hlk, hR⟩ := C
  intro H locs ls hP hD hS hl
  obtain ⟨ls', e', h'⟩ := lh_store2 (v := .long x) (i := 2) hl (by simp) rfl (lh_c1 (lo := (a0 :: a1 :: q0 :: q1 :: r)) (i := 2) (Or.inr ⟨1, _, rfl, rfl, h1⟩))
  intro T hT X
  obtain ⟨t, a, b⟩ := k H locs ls' hP hD hS h' T hT X
  refine ⟨t, ?_, b⟩
  jvm_step X.here [X.here.top, hx, hb, d, e']
  exact a
theorem r_lst3 {G : zG} {cc : ByteArray} {own : String} {ret : Option FieldType} {nL fr lc : Nat} (C : zC G cc own ret nL fr lc) {M : zM} {r : List (Option Value)} {st : List Value} {pc : Nat} {a0 a1 a2 q0 q1 : Option Value} {x : Int64} (h1 : zc1 a2 = true) (d : decode cc pc = .ok (.lstore_n 3, 1)) (k : VJ G M (pc + 1) (a0 :: a1 :: a2 :: some (.long x) :: none :: r) st) : VJ G M pc (a0 :: a1 :: a2 :: q0 :: q1 :: r) (.long x :: st) := by
  obtain ⟨sd, E, P, l, p, e, R, s, m, args, below, meth, c⟩ := G
  obtain ⟨hx, hb, hr, hml, hown, hts, hK, hN, hlk, hR⟩ := C
  intro H locs ls hP hD hS hl
  obtain ⟨ls', e', h'⟩ := lh_store2 (v := .long x) (i := 3) hl (by simp) rfl (lh_c1 (lo := (a0 :: a1 :: a2 :: q0 :: q1 :: r)) (i := 3) (Or.inr ⟨2, _, rfl, rfl, h1⟩))
  intro T hT X
  obtain ⟨t, a, b⟩ := k H locs ls' hP hD hS h' T hT X
  refine ⟨t, ?_, b⟩
  jvm_step X.here [X.here.top, hx, hb, d, e']
  exact a
theorem r_lst4 {G : zG} {cc : ByteArray} {own : String} {ret : Option FieldType} {nL fr lc : Nat} (C : zC G cc own ret nL fr lc) {M : zM} {r : List (Option Value)} {st : List Value} {pc : Nat} {a0 a1 a2 a3 q0 q1 : Option Value} {x : Int64} (h1 : zc1 a3 = true) (d : decode cc pc = .ok (.lstore 4, 2)) (k : VJ G M (pc + 2) (a0 :: a1 :: a2 :: a3 :: some (.long x) :: none :: r) st) : VJ G M pc (a0 :: a1 :: a2 :: a3 :: q0 :: q1 :: r) (.long x :: st) := by
  obtain ⟨sd, E, P, l, p, e, R, s, m, args, below, meth, c⟩ := G
  obtain ⟨hx, hb, hr, hml, hown, hts, hK, hN, hlk, hR⟩ := C
  intro H locs ls hP hD hS hl
  obtain ⟨ls', e', h'⟩ := lh_store2 (v := .long x) (i := 4) hl (by simp) rfl (lh_c1 (lo := (a0 :: a1 :: a2 :: a3 :: q0 :: q1 :: r)) (i := 4) (Or.inr ⟨3, _, rfl, rfl, h1⟩))
  intro T hT X
  obtain ⟨t, a, b⟩ := k H locs ls' hP hD hS h' T hT X
  refine ⟨t, ?_, b⟩
  jvm_step X.here [X.here.top, hx, hb, d, e']
  exact a
theorem r_lst5 {G : zG} {cc : ByteArray} {own : String} {ret : Option FieldType} {nL fr lc : Nat} (C : zC G cc own ret nL fr lc) {M : zM} {r : List (Option Value)} {st : List Value} {pc : Nat} {a0 a1 a2 a3 a4 q0 q1 : Option Value} {x : Int64} (h1 : zc1 a4 = true) (d : decode cc pc = .ok (.lstore 5, 2)) (k : VJ G M (pc + 2) (a0 :: a1 :: a2 :: a3 :: a4 :: some (.long x) :: none :: r) st) : VJ G M pc (a0 :: a1 :: a2 :: a3 :: a4 :: q0 :: q1 :: r) (.long x :: st) := by
  obtain ⟨sd, E, P, l, p, e, R, s, m, args, below, meth, c⟩ := G
  obtain ⟨hx, hb, hr, hml, hown, hts, hK, hN, hlk, hR⟩ := C
  intro H locs ls hP hD hS hl
  obtain ⟨ls', e', h'⟩ := lh_store2 (v := .long x) (i := 5) hl (by simp) rfl (lh_c1 (lo := (a0 :: a1 :: a2 :: a3 :: a4 :: q0 :: q1 :: r)) (i := 5) (Or.inr ⟨4, _, rfl, rfl, h1⟩))
  intro T hT X
  obtain ⟨t, a, b⟩ := k H locs ls' hP hD hS h' T hT X
  refine ⟨t, ?_, b⟩
  jvm_step X.here [X.here.top, hx, hb, d, e']
  exact a
theorem r_lst6 {G : zG} {cc : ByteArray} {own : String} {ret : Option FieldType} {nL fr lc : Nat} (C : zC G cc own ret nL fr lc) {M : zM} {r : List (Option Value)} {st : List Value} {pc : Nat} {a0 a1 a2 a3 a4 a5 q0 q1 : Option Value} {x : Int64} (h1 : zc1 a5 = true) (d : decode cc pc = .ok (.lstore 6, 2)) (k : VJ G M (pc + 2) (a0 :: a1 :: a2 :: a3 :: a4 :: a5 :: some (.long x) :: none :: r) st) : VJ G M pc (a0 :: a1 :: a2 :: a3 :: a4 :: a5 :: q0 :: q1 :: r) (.long x :: st) := by
  obtain ⟨sd, E, P, l, p, e, R, s, m, args, below, meth, c⟩ := G
  obtain ⟨hx, hb, hr, hml, hown, hts, hK, hN, hlk, hR⟩ := C
  intro H locs ls hP hD hS hl
  obtain ⟨ls', e', h'⟩ := lh_store2 (v := .long x) (i := 6) hl (by simp) rfl (lh_c1 (lo := (a0 :: a1 :: a2 :: a3 :: a4 :: a5 :: q0 :: q1 :: r)) (i := 6) (Or.inr ⟨5, _, rfl, rfl, h1⟩))
  intro T hT X
  obtain ⟨t, a, b⟩ := k H locs ls' hP hD hS h' T hT X
  refine ⟨t, ?_, b⟩
  jvm_step X.here [X.here.top, hx, hb, d, e']
  exact a
theorem r_lst7 {G : zG} {cc : ByteArray} {own : String} {ret : Option FieldType} {nL fr lc : Nat} (C : zC G cc own ret nL fr lc) {M : zM} {r : List (Option Value)} {st : List Value} {pc : Nat} {a0 a1 a2 a3 a4 a5 a6 q0 q1 : Option Value} {x : Int64} (h1 : zc1 a6 = true) (d : decode cc pc = .ok (.lstore 7, 2)) (k : VJ G M (pc + 2) (a0 :: a1 :: a2 :: a3 :: a4 :: a5 :: a6 :: some (.long x) :: none :: r) st) : VJ G M pc (a0 :: a1 :: a2 :: a3 :: a4 :: a5 :: a6 :: q0 :: q1 :: r) (.long x :: st) := by
  obtain ⟨sd, E, P, l, p, e, R, s, m, args, below, meth, c⟩ := G
  obtain ⟨hx, hb, hr, hml, hown, hts, hK, hN, hlk, hR⟩ := C
  intro H locs ls hP hD hS hl
  obtain ⟨ls', e', h'⟩ := lh_store2 (v := .long x) (i := 7) hl (by simp) rfl (lh_c1 (lo := (a0 :: a1 :: a2 :: a3 :: a4 :: a5 :: a6 :: q0 :: q1 :: r)) (i := 7) (Or.inr ⟨6, _, rfl, rfl, h1⟩))
  intro T hT X
  obtain ⟨t, a, b⟩ := k H locs ls' hP hD hS h' T hT X
  refine ⟨t, ?_, b⟩
  jvm_step X.here [X.here.top, hx, hb, d, e']
  exact a
theorem r_lst8 {G : zG} {cc : ByteArray} {own : String} {ret : Option FieldType} {nL fr lc : Nat} (C : zC G cc own ret nL fr lc) {M : zM} {r : List (Option Value)} {st : List Value} {pc : Nat} {a0 a1 a2 a3 a4 a5 a6 a7 q0 q1 : Option Value} {x : Int64} (h1 : zc1 a7 = true) (d : decode cc pc = .ok (.lstore 8, 2)) (k : VJ G M (pc + 2) (a0 :: a1 :: a2 :: a3 :: a4 :: a5 :: a6 :: a7 :: some (.long x) :: none :: r) st) : VJ G M pc (a0 :: a1 :: a2 :: a3 :: a4 :: a5 :: a6 :: a7 :: q0 :: q1 :: r) (.long x :: st) := by
  obtain ⟨sd, E, P, l, p, e, R, s, m, args, below, meth, c⟩ := G
  obtain ⟨hx, hb, hr, hml, hown, hts, hK, hN, hlk, hR⟩ := C
  intro H locs ls hP hD hS hl
  obtain ⟨ls', e', h'⟩ := lh_store2 (v := .long x) (i := 8) hl (by simp) rfl (lh_c1 (lo := (a0 :: a1 :: a2 :: a3 :: a4 :: a5 :: a6 :: a7 :: q0 :: q1 :: r)) (i := 8) (Or.inr ⟨7, _, rfl, rfl, h1⟩))
  intro T hT X
  obtain ⟨t, a, b⟩ := k H locs ls' hP hD hS h' T hT X
  refine ⟨t, ?_, b⟩
  jvm_step X.here [X.here.top, hx, hb, d, e']
  exact a
theorem r_lst9 {G : zG} {cc : ByteArray} {own : String} {ret : Option FieldType} {nL fr lc : Nat} (C : zC G cc own ret nL fr lc) {M : zM} {r : List (Option Value)} {st : List Value} {pc : Nat} {a0 a1 a2 a3 a4 a5 a6 a7 a8 q0 q1 : Option Value} {x : Int64} (h1 : zc1 a8 = true) (d : decode cc pc = .ok (.lstore 9, 2)) (k : VJ G M (pc + 2) (a0 :: a1 :: a2 :: a3 :: a4 :: a5 :: a6 :: a7 :: a8 :: some (.long x) :: none :: r) st) : VJ G M pc (a0 :: a1 :: a2 :: a3 :: a4 :: a5 :: a6 :: a7 :: a8 :: q0 :: q1 :: r) (.long x :: st) := by
  obtain ⟨sd, E, P, l, p, e, R, s, m, args, below, meth, c⟩ := G
  obtain ⟨hx, hb, hr, hml, hown, hts, hK, hN, hlk, hR⟩ := C
  intro H locs ls hP hD hS hl
  obtain ⟨ls', e', h'⟩ := lh_store2 (v := .long x) (i := 9) hl (by simp) rfl (lh_c1 (lo := (a0 :: a1 :: a2 :: a3 :: a4 :: a5 :: a6 :: a7 :: a8 :: q0 :: q1 :: r)) (i := 9) (Or.inr ⟨8, _, rfl, rfl, h1⟩))
  intro T hT X
  obtain ⟨t, a, b⟩ := k H locs ls' hP hD hS h' T hT X
  refine ⟨t, ?_, b⟩
  jvm_step X.here [X.here.top, hx, hb, d, e']
  exact a
theorem r_lst10 {G : zG} {cc : ByteArray} {own : String} {ret : Option FieldType} {nL fr lc : Nat} (C : zC G cc own ret nL fr lc) {M : zM} {r : List (Option Value)} {st : List Value} {pc : Nat} {a0 a1 a2 a3 a4 a5 a6 a7 a8 a9 q0 q1 : Option Value} {x : Int64} (h1 : zc1 a9 = true) (d : decode cc pc = .ok (.lstore 10, 2)) (k : VJ G M (pc + 2) (a0 :: a1 :: a2 :: a3 :: a4 :: a5 :: a6 :: a7 :: a8 :: a9 :: some (.long x) :: none :: r) st) : VJ G M pc (a0 :: a1 :: a2 :: a3 :: a4 :: a5 :: a6 :: a7 :: a8 :: a9 :: q0 :: q1 :: r) (.long x :: st) := by
  obtain ⟨sd, E, P, l, p, e, R, s, m, args, below, meth, c⟩ := G
  obtain ⟨hx, hb, hr, hml, hown, hts, hK, hN, hlk, hR⟩ := C
  intro H locs ls hP hD hS hl
  obtain ⟨ls', e', h'⟩ := lh_store2 (v := .long x) (i := 10) hl (by simp) rfl (lh_c1 (lo := (a0 :: a1 :: a2 :: a3 :: a4 :: a5 :: a6 :: a7 :: a8 :: a9 :: q0 :: q1 :: r)) (i := 10) (Or.inr ⟨9, _, rfl, rfl, h1⟩))
  intro T hT X
  obtain ⟨t, a, b⟩ := k H locs ls' hP hD hS h' T hT X
  refine ⟨t, ?_, b⟩
  jvm_step X.here [X.here.top, hx, hb, d, e']
  exact a
theorem r_lst11 {G : zG} {cc : ByteArray} {own : String} {ret : Option FieldType} {nL fr lc : Nat} (C : zC G cc own ret nL fr lc) {M : zM} {r : List (Option Value)} {st : List Value} {pc : Nat} {a0 a1 a2 a3 a4 a5 a6 a7 a8 a9 a10 q0 q1 : Option Value} {x : Int64} (h1 : zc1 a10 = true) (d : decode cc pc = .ok (.lstore 11, 2)) (k : VJ G M (pc + 2) (a0 :: a1 :: a2 :: a3 :: a4 :: a5 :: a6 :: a7 :: a8 :: a9 :: a10 :: some (.long x) :: none :: r) st) : VJ G M pc (a0 :: a1 :: a2 :: a3 :: a4 :: a5 :: a6 :: a7 :: a8 :: a9 :: a10 :: q0 :: q1 :: r) (.long x :: st) := by
  obtain ⟨sd, E, P, l, p, e, R, s, m, args, below, meth, c⟩ := G
  obtain ⟨hx, hb, hr, hml, hown, hts, hK, hN, hlk, hR⟩ := C
  intro H locs ls hP hD hS hl
  obtain ⟨ls', e', h'⟩ := lh_store2 (v := .long x) (i := 11) hl (by simp) rfl (lh_c1 (lo := (a0 :: a1 :: a2 :: a3 :: a4 :: a5 :: a6 :: a7 :: a8 :: a9 :: a10 :: q0 :: q1 :: r)) (i := 11) (Or.inr ⟨10, _, rfl, rfl, h1⟩))
  intro T hT X
  obtain ⟨t, a, b⟩ := k H locs ls' hP hD hS h' T hT X
  refine ⟨t, ?_, b⟩
  jvm_step X.here [X.here.top, hx, hb, d, e']
  exact a
theorem r_lst12 {G : zG} {cc : ByteArray} {own : String} {ret : Option FieldType} {nL fr lc : Nat} (C : zC G cc own ret nL fr lc) {M : zM} {r : List (Option Value)} {st : List Value} {pc : Nat} {a0 a1 a2 a3 a4 a5 a6 a7 a8 a9 a10 a11 q0 q1 : Option Value} {x : Int64} (h1 : zc1 a11 = true) (d : decode cc pc = .ok (.lstore 12, 2)) (k : VJ G M (pc + 2) (a0 :: a1 :: a2 :: a3 :: a4 :: a5 :: a6 :: a7 :: a8 :: a9 :: a10 :: a11 :: some (.long x) :: none :: r) st) : VJ G M pc (a0 :: a1 :: a2 :: a3 :: a4 :: a5 :: a6 :: a7 :: a8 :: a9 :: a10 :: a11 :: q0 :: q1 :: r) (.long x :: st) := by
  obtain ⟨sd, E, P, l, p, e, R, s, m, args, below, meth, c⟩ := G
  obtain ⟨hx, hb, hr, hml, hown, hts, hK, hN, hlk, hR⟩ := C
  intro H locs ls hP hD hS hl
  obtain ⟨ls', e', h'⟩ := lh_store2 (v := .long x) (i := 12) hl (by simp) rfl (lh_c1 (lo := (a0 :: a1 :: a2 :: a3 :: a4 :: a5 :: a6 :: a7 :: a8 :: a9 :: a10 :: a11 :: q0 :: q1 :: r)) (i := 12) (Or.inr ⟨11, _, rfl, rfl, h1⟩))
  intro T hT X
  obtain ⟨t, a, b⟩ := k H locs ls' hP hD hS h' T hT X
  refine ⟨t, ?_, b⟩
  jvm_step X.here [X.here.top, hx, hb, d, e']
  exact a
theorem r_lst13 {G : zG} {cc : ByteArray} {own : String} {ret : Option FieldType} {nL fr lc : Nat} (C : zC G cc own ret nL fr lc) {M : zM} {r : List (Option Value)} {st : List Value} {pc : Nat} {a0 a1 a2 a3 a4 a5 a6 a7 a8 a9 a10 a11 a12 q0 q1 : Option Value} {x : Int64} (h1 : zc1 a12 = true) (d : decode cc pc = .ok (.lstore 13, 2)) (k : VJ G M (pc + 2) (a0 :: a1 :: a2 :: a3 :: a4 :: a5 :: a6 :: a7 :: a8 :: a9 :: a10 :: a11 :: a12 :: some (.long x) :: none :: r) st) : VJ G M pc (a0 :: a1 :: a2 :: a3 :: a4 :: a5 :: a6 :: a7 :: a8 :: a9 :: a10 :: a11 :: a12 :: q0 :: q1 :: r) (.long x :: st) := by
  obtain ⟨sd, E, P, l, p, e, R, s, m, args, below, meth, c⟩ := G
  obtain ⟨hx, hb, hr, hml, hown, hts, hK, hN, hlk, hR⟩ := C
  intro H locs ls hP hD hS hl
  obtain ⟨ls', e', h'⟩ := lh_store2 (v := .long x) (i := 13) hl (by simp) rfl (lh_c1 (lo := (a0 :: a1 :: a2 :: a3 :: a4 :: a5 :: a6 :: a7 :: a8 :: a9 :: a10 :: a11 :: a12 :: q0 :: q1 :: r)) (i := 13) (Or.inr ⟨12, _, rfl, rfl, h1⟩))
  intro T hT X
  obtain ⟨t, a, b⟩ := k H locs ls' hP hD hS h' T hT X
  refine ⟨t, ?_, b⟩
  jvm_step X.here [X.here.top, hx, hb, d, e']
  exact a
theorem r_lst14 {G : zG} {cc : ByteArray} {own : String} {ret : Option FieldType} {nL fr lc : Nat} (C : zC G cc own ret nL fr lc) {M : zM} {r : List (Option Value)} {st : List Value} {pc : Nat} {a0 a1 a2 a3 a4 a5 a6 a7 a8 a9 a10 a11 a12 a13 q0 q1 : Option Value} {x : Int64} (h1 : zc1 a13 = true) (d : decode cc pc = .ok (.lstore 14, 2)) (k : VJ G M (pc + 2) (a0 :: a1 :: a2 :: a3 :: a4 :: a5 :: a6 :: a7 :: a8 :: a9 :: a10 :: a11 :: a12 :: a13 :: some (.long x) :: none :: r) st) : VJ G M pc (a0 :: a1 :: a2 :: a3 :: a4 :: a5 :: a6 :: a7 :: a8 :: a9 :: a10 :: a11 :: a12 :: a13 :: q0 :: q1 :: r) (.long x :: st) := by
  obtain ⟨sd, E, P, l, p, e, R, s, m, args, below, meth, c⟩ := G
  obtain ⟨hx, hb, hr, hml, hown, hts, hK, hN, hlk, hR⟩ := C
  intro H locs ls hP hD hS hl
  obtain ⟨ls', e', h'⟩ := lh_store2 (v := .long x) (i := 14) hl (by simp) rfl (lh_c1 (lo := (a0 :: a1 :: a2 :: a3 :: a4 :: a5 :: a6 :: a7 :: a8 :: a9 :: a10 :: a11 :: a12 :: a13 :: q0 :: q1 :: r)) (i := 14) (Or.inr ⟨13, _, rfl, rfl, h1⟩))
  intro T hT X
  obtain ⟨t, a, b⟩ := k H locs ls' hP hD hS h' T hT X
  refine ⟨t, ?_, b⟩
  jvm_step X.here [X.here.top, hx, hb, d, e']
  exact a
theorem r_lst15 {G : zG} {cc : ByteArray} {own : String} {ret : Option FieldType} {nL fr lc : Nat} (C : zC G cc own ret nL fr lc) {M : zM} {r : List (Option Value)} {st : List Value} {pc : Nat} {a0 a1 a2 a3 a4 a5 a6 a7 a8 a9 a10 a11 a12 a13 a14 q0 q1 : Option Value} {x : Int64} (h1 : zc1 a14 = true) (d : decode cc pc = .ok (.lstore 15, 2)) (k : VJ G M (pc + 2) (a0 :: a1 :: a2 :: a3 :: a4 :: a5 :: a6 :: a7 :: a8 :: a9 :: a10 :: a11 :: a12 :: a13 :: a14 :: some (.long x) :: none :: r) st) : VJ G M pc (a0 :: a1 :: a2 :: a3 :: a4 :: a5 :: a6 :: a7 :: a8 :: a9 :: a10 :: a11 :: a12 :: a13 :: a14 :: q0 :: q1 :: r) (.long x :: st) := by
  obtain ⟨sd, E, P, l, p, e, R, s, m, args, below, meth, c⟩ := G
  obtain ⟨hx, hb, hr, hml, hown, hts, hK, hN, hlk, hR⟩ := C
  intro H locs ls hP hD hS hl
  obtain ⟨ls', e', h'⟩ := lh_store2 (v := .long x) (i := 15) hl (by simp) rfl (lh_c1 (lo := (a0 :: a1 :: a2 :: a3 :: a4 :: a5 :: a6 :: a7 :: a8 :: a9 :: a10 :: a11 :: a12 :: a13 :: a14 :: q0 :: q1 :: r)) (i := 15) (Or.inr ⟨14, _, rfl, rfl, h1⟩))
  intro T hT X
  obtain ⟨t, a, b⟩ := k H locs ls' hP hD hS h' T hT X
  refine ⟨t, ?_, b⟩
  jvm_step X.here [X.here.top, hx, hb, d, e']
  exact a
theorem r_lst16 {G : zG} {cc : ByteArray} {own : String} {ret : Option FieldType} {nL fr lc : Nat} (C : zC G cc own ret nL fr lc) {M : zM} {r : List (Option Value)} {st : List Value} {pc : Nat} {a0 a1 a2 a3 a4 a5 a6 a7 a8 a9 a10 a11 a12 a13 a14 a15 q0 q1 : Option Value} {x : Int64} (h1 : zc1 a15 = true) (d : decode cc pc = .ok (.lstore 16, 2)) (k : VJ G M (pc + 2) (a0 :: a1 :: a2 :: a3 :: a4 :: a5 :: a6 :: a7 :: a8 :: a9 :: a10 :: a11 :: a12 :: a13 :: a14 :: a15 :: some (.long x) :: none :: r) st) : VJ G M pc (a0 :: a1 :: a2 :: a3 :: a4 :: a5 :: a6 :: a7 :: a8 :: a9 :: a10 :: a11 :: a12 :: a13 :: a14 :: a15 :: q0 :: q1 :: r) (.long x :: st) := by
  obtain ⟨sd, E, P, l, p, e, R, s, m, args, below, meth, c⟩ := G
  obtain ⟨hx, hb, hr, hml, hown, hts, hK, hN, hlk, hR⟩ := C
  intro H locs ls hP hD hS hl
  obtain ⟨ls', e', h'⟩ := lh_store2 (v := .long x) (i := 16) hl (by simp) rfl (lh_c1 (lo := (a0 :: a1 :: a2 :: a3 :: a4 :: a5 :: a6 :: a7 :: a8 :: a9 :: a10 :: a11 :: a12 :: a13 :: a14 :: a15 :: q0 :: q1 :: r)) (i := 16) (Or.inr ⟨15, _, rfl, rfl, h1⟩))
  intro T hT X
  obtain ⟨t, a, b⟩ := k H locs ls' hP hD hS h' T hT X
  refine ⟨t, ?_, b⟩
  jvm_step X.here [X.here.top, hx, hb, d, e']
  exact a
theorem r_lst17 {G : zG} {cc : ByteArray} {own : String} {ret : Option FieldType} {nL fr lc : Nat} (C : zC G cc own ret nL fr lc) {M : zM} {r : List (Option Value)} {st : List Value} {pc : Nat} {a0 a1 a2 a3 a4 a5 a6 a7 a8 a9 a10 a11 a12 a13 a14 a15 a16 q0 q1 : Option Value} {x : Int64} (h1 : zc1 a16 = true) (d : decode cc pc = .ok (.lstore 17, 2)) (k : VJ G M (pc + 2) (a0 :: a1 :: a2 :: a3 :: a4 :: a5 :: a6 :: a7 :: a8 :: a9 :: a10 :: a11 :: a12 :: a13 :: a14 :: a15 :: a16 :: some (.long x) :: none :: r) st) : VJ G M pc (a0 :: a1 :: a2 :: a3 :: a4 :: a5 :: a6 :: a7 :: a8 :: a9 :: a10 :: a11 :: a12 :: a13 :: a14 :: a15 :: a16 :: q0 :: q1 :: r) (.long x :: st) := by
  obtain ⟨sd, E, P, l, p, e, R, s, m, args, below, meth, c⟩ := G
  obtain ⟨hx, hb, hr, hml, hown, hts, hK, hN, hlk, hR⟩ := C
  intro H locs ls hP hD hS hl
  obtain ⟨ls', e', h'⟩ := lh_store2 (v := .long x) (i := 17) hl (by simp) rfl (lh_c1 (lo := (a0 :: a1 :: a2 :: a3 :: a4 :: a5 :: a6 :: a7 :: a8 :: a9 :: a10 :: a11 :: a12 :: a13 :: a14 :: a15 :: a16 :: q0 :: q1 :: r)) (i := 17) (Or.inr ⟨16, _, rfl, rfl, h1⟩))
  intro T hT X
  obtain ⟨t, a, b⟩ := k H locs ls' hP hD hS h' T hT X
  refine ⟨t, ?_, b⟩
  jvm_step X.here [X.here.top, hx, hb, d, e']
  exact a
theorem r_lst18 {G : zG} {cc : ByteArray} {own : String} {ret : Option FieldType} {nL fr lc : Nat} (C : zC G cc own ret nL fr lc) {M : zM} {r : List (Option Value)} {st : List Value} {pc : Nat} {a0 a1 a2 a3 a4 a5 a6 a7 a8 a9 a10 a11 a12 a13 a14 a15 a16 a17 q0 q1 : Option Value} {x : Int64} (h1 : zc1 a17 = true) (d : decode cc pc = .ok (.lstore 18, 2)) (k : VJ G M (pc + 2) (a0 :: a1 :: a2 :: a3 :: a4 :: a5 :: a6 :: a7 :: a8 :: a9 :: a10 :: a11 :: a12 :: a13 :: a14 :: a15 :: a16 :: a17 :: some (.long x) :: none :: r) st) : VJ G M pc (a0 :: a1 :: a2 :: a3 :: a4 :: a5 :: a6 :: a7 :: a8 :: a9 :: a10 :: a11 :: a12 :: a13 :: a14 :: a15 :: a16 :: a17 :: q0 :: q1 :: r) (.long x :: st) := by
  obtain ⟨sd, E, P, l, p, e, R, s, m, args, below, meth, c⟩ := G
  obtain ⟨hx, hb, hr, hml, hown, hts, hK, hN, hlk, hR⟩ := C
  intro H locs ls hP hD hS hl
  obtain ⟨ls', e', h'⟩ := lh_store2 (v := .long x) (i := 18) hl (by simp) rfl (lh_c1 (lo := (a0 :: a1 :: a2 :: a3 :: a4 :: a5 :: a6 :: a7 :: a8 :: a9 :: a10 :: a11 :: a12 :: a13 :: a14 :: a15 :: a16 :: a17 :: q0 :: q1 :: r)) (i := 18) (Or.inr ⟨17, _, rfl, rfl, h1⟩))
  intro T hT X
  obtain ⟨t, a, b⟩ := k H locs ls' hP hD hS h' T hT X
  refine ⟨t, ?_, b⟩
  jvm_step X.here [X.here.top, hx, hb, d, e']
  exact a
theorem r_lst19 {G : zG} {cc : ByteArray} {own : String} {ret : Option FieldType} {nL fr lc : Nat} (C : zC G cc own ret nL fr lc) {M : zM} {r : List (Option Value)} {st : List Value} {pc : Nat} {a0 a1 a2 a3 a4 a5 a6 a7 a8 a9 a10 a11 a12 a13 a14 a15 a16 a17 a18 q0 q1 : Option Value} {x : Int64} (h1 : zc1 a18 = true) (d : decode cc pc = .ok (.lstore 19, 2)) (k : VJ G M (pc + 2) (a0 :: a1 :: a2 :: a3 :: a4 :: a5 :: a6 :: a7 :: a8 :: a9 :: a10 :: a11 :: a12 :: a13 :: a14 :: a15 :: a16 :: a17 :: a18 :: some (.long x) :: none :: r) st) : VJ G M pc (a0 :: a1 :: a2 :: a3 :: a4 :: a5 :: a6 :: a7 :: a8 :: a9 :: a10 :: a11 :: a12 :: a13 :: a14 :: a15 :: a16 :: a17 :: a18 :: q0 :: q1 :: r) (.long x :: st) := by
  obtain ⟨sd, E, P, l, p, e, R, s, m, args, below, meth, c⟩ := G
  obtain ⟨hx, hb, hr, hml, hown, hts, hK, hN, hlk, hR⟩ := C
  intro H locs ls hP hD hS hl
  obtain ⟨ls', e', h'⟩ := lh_store2 (v := .long x) (i := 19) hl (by simp) rfl (lh_c1 (lo := (a0 :: a1 :: a2 :: a3 :: a4 :: a5 :: a6 :: a7 :: a8 :: a9 :: a10 :: a11 :: a12 :: a13 :: a14 :: a15 :: a16 :: a17 :: a18 :: q0 :: q1 :: r)) (i := 19) (Or.inr ⟨18, _, rfl, rfl, h1⟩))
  intro T hT X
  obtain ⟨t, a, b⟩ := k H locs ls' hP hD hS h' T hT X
  refine ⟨t, ?_, b⟩
  jvm_step X.here [X.here.top, hx, hb, d, e']
  exact a
theorem r_lst20 {G : zG} {cc : ByteArray} {own : String} {ret : Option FieldType} {nL fr lc : Nat} (C : zC G cc own ret nL fr lc) {M : zM} {r : List (Option Value)} {st : List Value} {pc : Nat} {a0 a1 a2 a3 a4 a5 a6 a7 a8 a9 a10 a11 a12 a13 a14 a15 a16 a17 a18 a19 q0 q1 : Option Value} {x : Int64} (h1 : zc1 a19 = true) (d : decode cc pc = .ok (.lstore 20, 2)) (k : VJ G M (pc + 2) (a0 :: a1 :: a2 :: a3 :: a4 :: a5 :: a6 :: a7 :: a8 :: a9 :: a10 :: a11 :: a12 :: a13 :: a14 :: a15 :: a16 :: a17 :: a18 :: a19 :: some (.long x) :: none :: r) st) : VJ G M pc (a0 :: a1 :: a2 :: a3 :: a4 :: a5 :: a6 :: a7 :: a8 :: a9 :: a10 :: a11 :: a12 :: a13 :: a14 :: a15 :: a16 :: a17 :: a18 :: a19 :: q0 :: q1 :: r) (.long x :: st) := by
  obtain ⟨sd, E, P, l, p, e, R, s, m, args, below, meth, c⟩ := G
  obtain ⟨hx, hb, hr, hml, hown, hts, hK, hN, hlk, hR⟩ := C
  intro H locs ls hP hD hS hl
  obtain ⟨ls', e', h'⟩ := lh_store2 (v := .long x) (i := 20) hl (by simp) rfl (lh_c1 (lo := (a0 :: a1 :: a2 :: a3 :: a4 :: a5 :: a6 :: a7 :: a8 :: a9 :: a10 :: a11 :: a12 :: a13 :: a14 :: a15 :: a16 :: a17 :: a18 :: a19 :: q0 :: q1 :: r)) (i := 20) (Or.inr ⟨19, _, rfl, rfl, h1⟩))
  intro T hT X
  obtain ⟨t, a, b⟩ := k H locs ls' hP hD hS h' T hT X
  refine ⟨t, ?_, b⟩
  jvm_step X.here [X.here.top, hx, hb, d, e']
  exact a
theorem r_iinc0 {G : zG} {cc : ByteArray} {own : String} {ret : Option FieldType} {nL fr lc : Nat} (C : zC G cc own ret nL fr lc) {M : zM} {r : List (Option Value)} {st : List Value} {pc : Nat} {z n : Int} (d : decode cc pc = .ok (.iinc 0 n, 3)) (k : VJ G M (pc + 3) (some (.int (iI (z + n))) :: r) st) : VJ G M pc (some (.int (iI z)) :: r) st := by
  obtain ⟨sd, E, P, l, p, e, R, s, m, args, below, meth, c⟩ := G
  obtain ⟨hx, hb, hr, hml, hown, hts, hK, hN, hlk, hR⟩ := C
  intro H locs ls hP hD hS hl
  obtain ⟨ls', e', h'⟩ := lh_store1 (v := .int (iI (z + n))) (i := 0) hl (by simp) rfl (lh_c1 (lo := (some (.int (iI z)) :: r)) (i := 0) (Or.inl rfl))
  have hg : ls[0]? = some (.val (.int (iI z))) := hl.2.2 0 _ rfl
  have e2 : iI z + Int32.ofInt n = iI (z + n) := iI_add z n
  intro T hT X
  obtain ⟨t, a, b⟩ := k H locs ls' hP hD hS h' T hT X
  refine ⟨t, ?_, b⟩
  rw [← e2] at e'
  jvm_step X.here [X.here.top, hx, hb, d, hg, e']
  exact a
theorem r_iinc1 {G : zG} {cc : ByteArray} {own : String} {ret : Option FieldType} {nL fr lc : Nat} (C : zC G cc own ret nL fr lc) {M : zM} {r : List (Option Value)} {st : List Value} {pc : Nat} {a0 : Option Value} {z n : Int} (h1 : zc1 a0 = true) (d : decode cc pc = .ok (.iinc 1 n, 3)) (k : VJ G M (pc + 3) (a0 :: some (.int (iI (z + n))) :: r) st) : VJ G M pc (a0 :: some (.int (iI z)) :: r) st := by
  obtain ⟨sd, E, P, l, p, e, R, s, m, args, below, meth, c⟩ := G
  obtain ⟨hx, hb, hr, hml, hown, hts, hK, hN, hlk, hR⟩ := C
  intro H locs ls hP hD hS hl
  obtain ⟨ls', e', h'⟩ := lh_store1 (v := .int (iI (z + n))) (i := 1) hl (by simp) rfl (lh_c1 (lo := (a0 :: some (.int (iI z)) :: r)) (i := 1) (Or.inr ⟨0, _, rfl, rfl, h1⟩))
  have hg : ls[1]? = some (.val (.int (iI z))) := hl.2.2 1 _ rfl
  have e2 : iI z + Int32.ofInt n = iI (z + n) := iI_add z n
  intro T hT X
  obtain ⟨t, a, b⟩ := k H locs ls' hP hD hS h' T hT X
  refine ⟨t, ?_, b⟩
  rw [← e2] at e'
  jvm_step X.here [X.here.top, hx, hb, d, hg, e']
  exact a
theorem r_iinc2 {G : zG} {cc : ByteArray} {own : String} {ret : Option FieldType} {nL fr lc : Nat} (C : zC G cc own ret nL fr lc) {M : zM} {r : List (Option Value)} {st : List Value} {pc : Nat} {a0 a1 : Option Value} {z n : Int} (h1 : zc1 a1 = true) (d : decode cc pc = .ok (.iinc 2 n, 3)) (k : VJ G M (pc + 3) (a0 :: a1 :: some (.int (iI (z + n))) :: r) st) : VJ G M pc (a0 :: a1 :: some (.int (iI z)) :: r) st := by
  obtain ⟨sd, E, P, l, p, e, R, s, m, args, below, meth, c⟩ := G
  obtain ⟨hx, hb, hr, hml, hown, hts, hK, hN, hlk, hR⟩ := C
  intro H locs ls hP hD hS hl
  obtain ⟨ls', e', h'⟩ := lh_store1 (v := .int (iI (z + n))) (i := 2) hl (by simp) rfl (lh_c1 (lo := (a0 :: a1 :: some (.int (iI z)) :: r)) (i := 2) (Or.inr ⟨1, _, rfl, rfl, h1⟩))
  have hg : ls[2]? = some (.val (.int (iI z))) := hl.2.2 2 _ rfl
  have e2 : iI z + Int32.ofInt n = iI (z + n) := iI_add z n
  intro T hT X
  obtain ⟨t, a, b⟩ := k H locs ls' hP hD hS h' T hT X
  refine ⟨t, ?_, b⟩
  rw [← e2] at e'
  jvm_step X.here [X.here.top, hx, hb, d, hg, e']
  exact a
theorem r_iinc3 {G : zG} {cc : ByteArray} {own : String} {ret : Option FieldType} {nL fr lc : Nat} (C : zC G cc own ret nL fr lc) {M : zM} {r : List (Option Value)} {st : List Value} {pc : Nat} {a0 a1 a2 : Option Value} {z n : Int} (h1 : zc1 a2 = true) (d : decode cc pc = .ok (.iinc 3 n, 3)) (k : VJ G M (pc + 3) (a0 :: a1 :: a2 :: some (.int (iI (z + n))) :: r) st) : VJ G M pc (a0 :: a1 :: a2 :: some (.int (iI z)) :: r) st := by
  obtain ⟨sd, E, P, l, p, e, R, s, m, args, below, meth, c⟩ := G
  obtain ⟨hx, hb, hr, hml, hown, hts, hK, hN, hlk, hR⟩ := C
  intro H locs ls hP hD hS hl
  obtain ⟨ls', e', h'⟩ := lh_store1 (v := .int (iI (z + n))) (i := 3) hl (by simp) rfl (lh_c1 (lo := (a0 :: a1 :: a2 :: some (.int (iI z)) :: r)) (i := 3) (Or.inr ⟨2, _, rfl, rfl, h1⟩))
  have hg : ls[3]? = some (.val (.int (iI z))) := hl.2.2 3 _ rfl
  have e2 : iI z + Int32.ofInt n = iI (z + n) := iI_add z n
  intro T hT X
  obtain ⟨t, a, b⟩ := k H locs ls' hP hD hS h' T hT X
  refine ⟨t, ?_, b⟩
  rw [← e2] at e'
  jvm_step X.here [X.here.top, hx, hb, d, hg, e']
  exact a
theorem r_iinc4 {G : zG} {cc : ByteArray} {own : String} {ret : Option FieldType} {nL fr lc : Nat} (C : zC G cc own ret nL fr lc) {M : zM} {r : List (Option Value)} {st : List Value} {pc : Nat} {a0 a1 a2 a3 : Option Value} {z n : Int} (h1 : zc1 a3 = true) (d : decode cc pc = .ok (.iinc 4 n, 3)) (k : VJ G M (pc + 3) (a0 :: a1 :: a2 :: a3 :: some (.int (iI (z + n))) :: r) st) : VJ G M pc (a0 :: a1 :: a2 :: a3 :: some (.int (iI z)) :: r) st := by
  obtain ⟨sd, E, P, l, p, e, R, s, m, args, below, meth, c⟩ := G
  obtain ⟨hx, hb, hr, hml, hown, hts, hK, hN, hlk, hR⟩ := C
  intro H locs ls hP hD hS hl
  obtain ⟨ls', e', h'⟩ := lh_store1 (v := .int (iI (z + n))) (i := 4) hl (by simp) rfl (lh_c1 (lo := (a0 :: a1 :: a2 :: a3 :: some (.int (iI z)) :: r)) (i := 4) (Or.inr ⟨3, _, rfl, rfl, h1⟩))
  have hg : ls[4]? = some (.val (.int (iI z))) := hl.2.2 4 _ rfl
  have e2 : iI z + Int32.ofInt n = iI (z + n) := iI_add z n
  intro T hT X
  obtain ⟨t, a, b⟩ := k H locs ls' hP hD hS h' T hT X
  refine ⟨t, ?_, b⟩
  rw [← e2] at e'
  jvm_step X.here [X.here.top, hx, hb, d, hg, e']
  exact a
theorem r_iinc5 {G : zG} {cc : ByteArray} {own : String} {ret : Option FieldType} {nL fr lc : Nat} (C : zC G cc own ret nL fr lc) {M : zM} {r : List (Option Value)} {st : List Value} {pc : Nat} {a0 a1 a2 a3 a4 : Option Value} {z n : Int} (h1 : zc1 a4 = true) (d : decode cc pc = .ok (.iinc 5 n, 3)) (k : VJ G M (pc + 3) (a0 :: a1 :: a2 :: a3 :: a4 :: some (.int (iI (z + n))) :: r) st) : VJ G M pc (a0 :: a1 :: a2 :: a3 :: a4 :: some (.int (iI z)) :: r) st := by
  obtain ⟨sd, E, P, l, p, e, R, s, m, args, below, meth, c⟩ := G
  obtain ⟨hx, hb, hr, hml, hown, hts, hK, hN, hlk, hR⟩ := C
  intro H locs ls hP hD hS hl
  obtain ⟨ls', e', h'⟩ := lh_store1 (v := .int (iI (z + n))) (i := 5) hl (by simp) rfl (lh_c1 (lo := (a0 :: a1 :: a2 :: a3 :: a4 :: some (.int (iI z)) :: r)) (i := 5) (Or.inr ⟨4, _, rfl, rfl, h1⟩))
  have hg : ls[5]? = some (.val (.int (iI z))) := hl.2.2 5 _ rfl
  have e2 : iI z + Int32.ofInt n = iI (z + n) := iI_add z n
  intro T hT X
  obtain ⟨t, a, b⟩ := k H locs ls' hP hD hS h' T hT X
  refine ⟨t, ?_, b⟩
  rw [← e2] at e'
  jvm_step X.here [X.here.top, hx, hb, d, hg, e']
  exact a
theorem r_iinc6 {G : zG} {cc : ByteArray} {own : String} {ret : Option FieldType} {nL fr lc : Nat} (C : zC G cc own ret nL fr lc) {M : zM} {r : List (Option Value)} {st : List Value} {pc : Nat} {a0 a1 a2 a3 a4 a5 : Option Value} {z n : Int} (h1 : zc1 a5 = true) (d : decode cc pc = .ok (.iinc 6 n, 3)) (k : VJ G M (pc + 3) (a0 :: a1 :: a2 :: a3 :: a4 :: a5 :: some (.int (iI (z + n))) :: r) st) : VJ G M pc (a0 :: a1 :: a2 :: a3 :: a4 :: a5 :: some (.int (iI z)) :: r) st := by
  obtain ⟨sd, E, P, l, p, e, R, s, m, args, below, meth, c⟩ := G
  obtain ⟨hx, hb, hr, hml, hown, hts, hK, hN, hlk, hR⟩ := C
  intro H locs ls hP hD hS hl
  obtain ⟨ls', e', h'⟩ := lh_store1 (v := .int (iI (z + n))) (i := 6) hl (by simp) rfl (lh_c1 (lo := (a0 :: a1 :: a2 :: a3 :: a4 :: a5 :: some (.int (iI z)) :: r)) (i := 6) (Or.inr ⟨5, _, rfl, rfl, h1⟩))
  have hg : ls[6]? = some (.val (.int (iI z))) := hl.2.2 6 _ rfl
  have e2 : iI z + Int32.ofInt n = iI (z + n) := iI_add z n
  intro T hT X
  obtain ⟨t, a, b⟩ := k H locs ls' hP hD hS h' T hT X
  refine ⟨t, ?_, b⟩
  rw [← e2] at e'
  jvm_step X.here [X.here.top, hx, hb, d, hg, e']
  exact a
theorem r_iinc7 {G : zG} {cc : ByteArray} {own : String} {ret : Option FieldType} {nL fr lc : Nat} (C : zC G cc own ret nL fr lc) {M : zM} {r : List (Option Value)} {st : List Value} {pc : Nat} {a0 a1 a2 a3 a4 a5 a6 : Option Value} {z n : Int} (h1 : zc1 a6 = true) (d : decode cc pc = .ok (.iinc 7 n, 3)) (k : VJ G M (pc + 3) (a0 :: a1 :: a2 :: a3 :: a4 :: a5 :: a6 :: some (.int (iI (z + n))) :: r) st) : VJ G M pc (a0 :: a1 :: a2 :: a3 :: a4 :: a5 :: a6 :: some (.int (iI z)) :: r) st := by
  obtain ⟨sd, E, P, l, p, e, R, s, m, args, below, meth, c⟩ := G
  obtain ⟨hx, hb, hr, hml, hown, hts, hK, hN, hlk, hR⟩ := C
  intro H locs ls hP hD hS hl
  obtain ⟨ls', e', h'⟩ := lh_store1 (v := .int (iI (z + n))) (i := 7) hl (by simp) rfl (lh_c1 (lo := (a0 :: a1 :: a2 :: a3 :: a4 :: a5 :: a6 :: some (.int (iI z)) :: r)) (i := 7) (Or.inr ⟨6, _, rfl, rfl, h1⟩))
  have hg : ls[7]? = some (.val (.int (iI z))) := hl.2.2 7 _ rfl
  have e2 : iI z + Int32.ofInt n = iI (z + n) := iI_add z n
  intro T hT X
  obtain ⟨t, a, b⟩ := k H locs ls' hP hD hS h' T hT X
  refine ⟨t, ?_, b⟩
  rw [← e2] at e'
  jvm_step X.here [X.here.top, hx, hb, d, hg, e']
  exact a
theorem r_iinc8 {G : zG} {cc : ByteArray} {own : String} {ret : Option FieldType} {nL fr lc : Nat} (C : zC G cc own ret nL fr lc) {M : zM} {r : List (Option Value)} {st : List Value} {pc : Nat} {a0 a1 a2 a3 a4 a5 a6 a7 : Option Value} {z n : Int} (h1 : zc1 a7 = true) (d : decode cc pc = .ok (.iinc 8 n, 3)) (k : VJ G M (pc + 3) (a0 :: a1 :: a2 :: a3 :: a4 :: a5 :: a6 :: a7 :: some (.int (iI (z + n))) :: r) st) : VJ G M pc (a0 :: a1 :: a2 :: a3 :: a4 :: a5 :: a6 :: a7 :: some (.int (iI z)) :: r) st := by
  obtain ⟨sd, E, P, l, p, e, R, s, m, args, below, meth, c⟩ := G
  obtain ⟨hx, hb, hr, hml, hown, hts, hK, hN, hlk, hR⟩ := C
  intro H locs ls hP hD hS hl
  obtain ⟨ls', e', h'⟩ := lh_store1 (v := .int (iI (z + n))) (i := 8) hl (by simp) rfl (lh_c1 (lo := (a0 :: a1 :: a2 :: a3 :: a4 :: a5 :: a6 :: a7 :: some (.int (iI z)) :: r)) (i := 8) (Or.inr ⟨7, _, rfl, rfl, h1⟩))
  have hg : ls[8]? = some (.val (.int (iI z))) := hl.2.2 8 _ rfl
  have e2 : iI z + Int32.ofInt n = iI (z + n) := iI_add z n
  intro T hT X
  obtain ⟨t, a, b⟩ := k H locs ls' hP hD hS h' T hT X
  refine ⟨t, ?_, b⟩
  rw [← e2] at e'
  jvm_step X.here [X.here.top, hx, hb, d, hg, e']
  exact a
theorem r_iinc9 {G : zG} {cc : ByteArray} {own : String} {ret : Option FieldType} {nL fr lc : Nat} (C : zC G cc own ret nL fr lc) {M : zM} {r : List (Option Value)} {st : List Value} {pc : Nat} {a0 a1 a2 a3 a4 a5 a6 a7 a8 : Option Value} {z n : Int} (h1 : zc1 a8 = true) (d : decode cc pc = .ok (.iinc 9 n, 3)) (k : VJ G M (pc + 3) (a0 :: a1 :: a2 :: a3 :: a4 :: a5 :: a6 :: a7 :: a8 :: some (.int (iI (z + n))) :: r) st) : VJ G M pc (a0 :: a1 :: a2 :: a3 :: a4 :: a5 :: a6 :: a7 :: a8 :: some (.int (iI z)) :: r) st := by
  obtain ⟨sd, E, P, l, p, e, R, s, m, args, below, meth, c⟩ := G
  obtain ⟨hx, hb, hr, hml, hown, hts, hK, hN, hlk, hR⟩ := C
  intro H locs ls hP hD hS hl
  obtain ⟨ls', e', h'⟩ := lh_store1 (v := .int (iI (z + n))) (i := 9) hl (by simp) rfl (lh_c1 (lo := (a0 :: a1 :: a2 :: a3 :: a4 :: a5 :: a6 :: a7 :: a8 :: some (.int (iI z)) :: r)) (i := 9) (Or.inr ⟨8, _, rfl, rfl, h1⟩))
  have hg : ls[9]? = some (.val (.int (iI z))) := hl.2.2 9 _ rfl
  have e2 : iI z + Int32.ofInt n = iI (z + n) := iI_add z n
  intro T hT X
  obtain ⟨t, a, b⟩ := k H locs ls' hP hD hS h' T hT X
  refine ⟨t, ?_, b⟩
  rw [← e2] at e'
  jvm_step X.here [X.here.top, hx, hb, d, hg, e']
  exact a
theorem r_iinc10 {G : zG} {cc : ByteArray} {own : String} {ret : Option FieldType} {nL fr lc : Nat} (C : zC G cc own ret nL fr lc) {M : zM} {r : List (Option Value)} {st : List Value} {pc : Nat} {a0 a1 a2 a3 a4 a5 a6 a7 a8 a9 : Option Value} {z n : Int} (h1 : zc1 a9 = true) (d : decode cc pc = .ok (.iinc 10 n, 3)) (k : VJ G M (pc + 3) (a0 :: a1 :: a2 :: a3 :: a4 :: a5 :: a6 :: a7 :: a8 :: a9 :: some (.int (iI (z + n))) :: r) st) : VJ G M pc (a0 :: a1 :: a2 :: a3 :: a4 :: a5 :: a6 :: a7 :: a8 :: a9 :: some (.int (iI z)) :: r) st := by
  obtain ⟨sd, E, P, l, p, e, R, s, m, args, below, meth, c⟩ := G
  obtain ⟨hx, hb, hr, hml, hown, hts, hK, hN, hlk, hR⟩ := C
  intro H locs ls hP hD hS hl
  obtain ⟨ls', e', h'⟩ := lh_store1 (v := .int (iI (z + n))) (i := 10) hl (by simp) rfl (lh_c1 (lo := (a0 :: a1 :: a2 :: a3 :: a4 :: a5 :: a6 :: a7 :: a8 :: a9 :: some (.int (iI z)) :: r)) (i := 10) (Or.inr ⟨9, _, rfl, rfl, h1⟩))
  have hg : ls[10]? = some (.val (.int (iI z))) := hl.2.2 10 _ rfl
  have e2 : iI z + Int32.ofInt n = iI (z + n) := iI_add z n
  intro T hT X
  obtain ⟨t, a, b⟩ := k H locs ls' hP hD hS h' T hT X
  refine ⟨t, ?_, b⟩
  rw [← e2] at e'
  jvm_step X.here [X.here.top, hx, hb, d, hg, e']
  exact a
theorem r_iinc11 {G : zG} {cc : ByteArray} {own : String} {ret : Option FieldType} {nL fr lc : Nat} (C : zC G cc own ret nL fr lc) {M : zM} {r : List (Option Value)} {st : List Value} {pc : Nat} {a0 a1 a2 a3 a4 a5 a6 a7 a8 a9 a10 : Option Value} {z n : Int} (h1 : zc1 a10 = true) (d : decode cc pc = .ok (.iinc 11 n, 3)) (k : VJ G M (pc + 3) (a0 :: a1 :: a2 :: a3 :: a4 :: a5 :: a6 :: a7 :: a8 :: a9 :: a10 :: some (.int (iI (z + n))) :: r) st) : VJ G M pc (a0 :: a1 :: a2 :: a3 :: a4 :: a5 :: a6 :: a7 :: a8 :: a9 :: a10 :: some (.int (iI z)) :: r) st := by
  obtain ⟨sd, E, P, l, p, e, R, s, m, args, below, meth, c⟩ := G
  obtain ⟨hx, hb, hr, hml, hown, hts, hK, hN, hlk, hR⟩ := C
  intro H locs ls hP hD hS hl
  obtain ⟨ls', e', h'⟩ := lh_store1 (v := .int (iI (z + n))) (i := 11) hl (by simp) rfl (lh_c1 (lo := (a0 :: a1 :: a2 :: a3 :: a4 :: a5 :: a6 :: a7 :: a8 :: a9 :: a10 :: some (.int (iI z)) :: r)) (i := 11) (Or.inr ⟨10, _, rfl, rfl, h1⟩))
  have hg : ls[11]? = some (.val (.int (iI z))) := hl.2.2 11 _ rfl
  have e2 : iI z + Int32.ofInt n = iI (z + n) := iI_add z n
  intro T hT X
  obtain ⟨t, a, b⟩ := k H locs ls' hP hD hS h' T hT X
  refine ⟨t, ?_, b⟩
  rw [← e2] at e'
  jvm_step X.here [X.here.top, hx, hb, d, hg, e']
  exact a
theorem r_iinc12 {G : zG} {cc : ByteArray} {own : String} {ret : Option FieldType} {nL fr lc : Nat} (C : zC G cc own ret nL fr lc) {M : zM} {r : List (Option Value)} {st : List Value} {pc : Nat} {a0 a1 a2 a3 a4 a5 a6 a7 a8 a9 a10 a11 : Option Value} {z n : Int} (h1 : zc1 a11 = true) (d : decode cc pc = .ok (.iinc 12 n, 3)) (k : VJ G M (pc + 3) (a0 :: a1 :: a2 :: a3 :: a4 :: a5 :: a6 :: a7 :: a8 :: a9 :: a10 :: a11 :: some (.int (iI (z + n))) :: r) st) : VJ G M pc (a0 :: a1 :: a2 :: a3 :: a4 :: a5 :: a6 :: a7 :: a8 :: a9 :: a10 :: a11 :: some (.int (iI z)) :: r) st := by
  obtain ⟨sd, E, P, l, p, e, R, s, m, args, below, meth, c⟩ := G
  obtain ⟨hx, hb, hr, hml, hown, hts, hK, hN, hlk, hR⟩ := C
  intro H locs ls hP hD hS hl
  obtain ⟨ls', e', h'⟩ := lh_store1 (v := .int (iI (z + n))) (i := 12) hl (by simp) rfl (lh_c1 (lo := (a0 :: a1 :: a2 :: a3 :: a4 :: a5 :: a6 :: a7 :: a8 :: a9 :: a10 :: a11 :: some (.int (iI z)) :: r)) (i := 12) (Or.inr ⟨11, _, rfl, rfl, h1⟩))
  have hg : ls[12]? = some (.val (.int (iI z))) := hl.2.2 12 _ rfl
  have e2 : iI z + Int32.ofInt n = iI (z + n) := iI_add z n
  intro T hT X
  obtain ⟨t, a, b⟩ := k H locs ls' hP hD hS h' T hT X
  refine ⟨t, ?_, b⟩
  rw [← e2] at e'
  jvm_step X.here [X.here.top, hx, hb, d, hg, e']
  exact a
theorem r_iinc13 {G : zG} {cc : ByteArray} {own : String} {ret : Option FieldType} {nL fr lc : Nat} (C : zC G cc own ret nL fr lc) {M : zM} {r : List (Option Value)} {st : List Value} {pc : Nat} {a0 a1 a2 a3 a4 a5 a6 a7 a8 a9 a10 a11 a12 : Option Value} {z n : Int} (h1 : zc1 a12 = true) (d : decode cc pc = .ok (.iinc 13 n, 3)) (k : VJ G M (pc + 3) (a0 :: a1 :: a2 :: a3 :: a4 :: a5 :: a6 :: a7 :: a8 :: a9 :: a10 :: a11 :: a12 :: some (.int (iI (z + n))) :: r) st) : VJ G M pc (a0 :: a1 :: a2 :: a3 :: a4 :: a5 :: a6 :: a7 :: a8 :: a9 :: a10 :: a11 :: a12 :: some (.int (iI z)) :: r) st := by
  obtain ⟨sd, E, P, l, p, e, R, s, m, args, below, meth, c⟩ := G
  obtain ⟨hx, hb, hr, hml, hown, hts, hK, hN, hlk, hR⟩ := C
  intro H locs ls hP hD hS hl
  obtain ⟨ls', e', h'⟩ := lh_store1 (v := .int (iI (z + n))) (i := 13) hl (by simp) rfl (lh_c1 (lo := (a0 :: a1 :: a2 :: a3 :: a4 :: a5 :: a6 :: a7 :: a8 :: a9 :: a10 :: a11 :: a12 :: some (.int (iI z)) :: r)) (i := 13) (Or.inr ⟨12, _, rfl, rfl, h1⟩))
  have hg : ls[13]? = some (.val (.int (iI z))) := hl.2.2 13 _ rfl
  have e2 : iI z + Int32.ofInt n = iI (z + n) := iI_add z n
  intro T hT X
  obtain ⟨t, a, b⟩ := k H locs ls' hP hD hS h' T hT X
  refine ⟨t, ?_, b⟩
  rw [← e2] at e'
  jvm_step X.here [X.here.top, hx, hb, d, hg, e']
  exact a
theorem r_iinc14 {G : zG} {cc : ByteArray} {own : String} {ret : Option FieldType} {nL fr lc : Nat} (C : zC G cc own ret nL fr lc) {M : zM} {r : List (Option Value)} {st : List Value} {pc : Nat} {a0 a1 a2 a3 a4 a5 a6 a7 a8 a9 a10 a11 a12 a13 : Option Value} {z n : Int} (h1 : zc1 a13 = true) (d : decode cc pc = .ok (.iinc 14 n, 3)) (k : VJ G M (pc + 3) (a0 :: a1 :: a2 :: a3 :: a4 :: a5 :: a6 :: a7 :: a8 :: a9 :: a10 :: a11 :: a12 :: a13 :: some (.int (iI (z + n))) :: r) st) : VJ G M pc (a0 :: a1 :: a2 :: a3 :: a4 :: a5 :: a6 :: a7 :: a8 :: a9 :: a10 :: a11 :: a12 :: a13 :: some (.int (iI z)) :: r) st := by
  obtain ⟨sd, E, P, l, p, e, R, s, m, args, below, meth, c⟩ := G
  obtain ⟨hx, hb, hr, hml, hown, hts, hK, hN, hlk, hR⟩ := C
  intro H locs ls hP hD hS hl
  obtain ⟨ls', e', h'⟩ := lh_store1 (v := .int (iI (z + n))) (i := 14) hl (by simp) rfl (lh_c1 (lo := (a0 :: a1 :: a2 :: a3 :: a4 :: a5 :: a6 :: a7 :: a8 :: a9 :: a10 :: a11 :: a12 :: a13 :: some (.int (iI z)) :: r)) (i := 14) (Or.inr ⟨13, _, rfl, rfl, h1⟩))
  have hg : ls[14]? = some (.val (.int (iI z))) := hl.2.2 14 _ rfl
  have e2 : iI z + Int32.ofInt n = iI (z + n) := iI_add z n
  intro T hT X
  obtain ⟨t, a, b⟩ := k H locs ls' hP hD hS h' T hT X
  refine ⟨t, ?_, b⟩
  rw [← e2] at e'
  jvm_step X.here [X.here.top, hx, hb, d, hg, e']
  exact a
theorem r_iinc15 {G : zG} {cc : ByteArray} {own : String} {ret : Option FieldType} {nL fr lc : Nat} (C : zC G cc own ret nL fr lc) {M : zM} {r : List (Option Value)} {st : List Value} {pc : Nat} {a0 a1 a2 a3 a4 a5 a6 a7 a8 a9 a10 a11 a12 a13 a14 : Option Value} {z n : Int} (h1 : zc1 a14 = true) (d : decode cc pc = .ok (.iinc 15 n, 3)) (k : VJ G M (pc + 3) (a0 :: a1 :: a2 :: a3 :: a4 :: a5 :: a6 :: a7 :: a8 :: a9 :: a10 :: a11 :: a12 :: a13 :: a14 :: some (.int (iI (z + n))) :: r) st) : VJ G M pc (a0 :: a1 :: a2 :: a3 :: a4 :: a5 :: a6 :: a7 :: a8 :: a9 :: a10 :: a11 :: a12 :: a13 :: a14 :: some (.int (iI z)) :: r) st := by
  obtain ⟨sd, E, P, l, p, e, R, s, m, args, below, meth, c⟩ := G
  obtain ⟨hx, hb, hr, hml, hown, hts, hK, hN, hlk, hR⟩ := C
  intro H locs ls hP hD hS hl
  obtain ⟨ls', e', h'⟩ := lh_store1 (v := .int (iI (z + n))) (i := 15) hl (by simp) rfl (lh_c1 (lo := (a0 :: a1 :: a2 :: a3 :: a4 :: a5 :: a6 :: a7 :: a8 :: a9 :: a10 :: a11 :: a12 :: a13 :: a14 :: some (.int (iI z)) :: r)) (i := 15) (Or.inr ⟨14, _, rfl, rfl, h1⟩))
  have hg : ls[15]? = some (.val (.int (iI z))) := hl.2.2 15 _ rfl
  have e2 : iI z + Int32.ofInt n = iI (z + n) := iI_add z n
  intro T hT X
  obtain ⟨t, a, b⟩ := k H locs ls' hP hD hS h' T hT X
  refine ⟨t, ?_, b⟩
  rw [← e2] at e'
  jvm_step X.here [X.here.top, hx, hb, d, hg, e']
  exact a
theorem r_iinc16 {G : zG} {cc : ByteArray} {own : String} {ret : Option FieldType} {nL fr lc : Nat} (C : zC G cc own ret nL fr lc) {M : zM} {r : List (Option Value)} {st : List Value} {pc : Nat} {a0 a1 a2 a3 a4 a5 a6 a7 a8 a9 a10 a11 a12 a13 a14 a15 : Option Value} {z n : Int} (h1 : zc1 a15 = true) (d : decode cc pc = .ok (.iinc 16 n, 3)) (k : VJ G M (pc + 3) (a0 :: a1 :: a2 :: a3 :: a4 :: a5 :: a6 :: a7 :: a8 :: a9 :: a10 :: a11 :: a12 :: a13 :: a14 :: a15 :: some (.int (iI (z + n))) :: r) st) : VJ G M pc (a0 :: a1 :: a2 :: a3 :: a4 :: a5 :: a6 :: a7 :: a8 :: a9 :: a10 :: a11 :: a12 :: a13 :: a14 :: a15 :: some (.int (iI z)) :: r) st := by
  obtain ⟨sd, E, P, l, p, e, R, s, m, args, below, meth, c⟩ := G
  obtain ⟨hx, hb, hr, hml, hown, hts, hK, hN, hlk, hR⟩ := C
  intro H locs ls hP hD hS hl
  obtain ⟨ls', e', h'⟩ := lh_store1 (v := .int (iI (z + n))) (i := 16) hl (by simp) rfl (lh_c1 (lo := (a0 :: a1 :: a2 :: a3 :: a4 :: a5 :: a6 :: a7 :: a8 :: a9 :: a10 :: a11 :: a12 :: a13 :: a14 :: a15 :: some (.int (iI z)) :: r)) (i := 16) (Or.inr ⟨15, _, rfl, rfl, h1⟩))
  have hg : ls[16]? = some (.val (.int (iI z))) := hl.2.2 16 _ rfl
  have e2 : iI z + Int32.ofInt n = iI (z + n) := iI_add z n
  intro T hT X
  obtain ⟨t, a, b⟩ := k H locs ls' hP hD hS h' T hT X
  refine ⟨t, ?_, b⟩
  rw [← e2] at e'
  jvm_step X.here [X.here.top, hx, hb, d, hg, e']
  exact a
theorem r_iinc17 {G : zG} {cc : ByteArray} {own : String} {ret : Option FieldType} {nL fr lc : Nat} (C : zC G cc own ret nL fr lc) {M : zM} {r : List (Option Value)} {st : List Value} {pc : Nat} {a0 a1 a2 a3 a4 a5 a6 a7 a8 a9 a10 a11 a12 a13 a14 a15 a16 : Option Value} {z n : Int} (h1 : zc1 a16 = true) (d : decode cc pc = .ok (.iinc 17 n, 3)) (k : VJ G M (pc + 3) (a0 :: a1 :: a2 :: a3 :: a4 :: a5 :: a6 :: a7 :: a8 :: a9 :: a10 :: a11 :: a12 :: a13 :: a14 :: a15 :: a16 :: some (.int (iI (z + n))) :: r) st) : VJ G M pc (a0 :: a1 :: a2 :: a3 :: a4 :: a5 :: a6 :: a7 :: a8 :: a9 :: a10 :: a11 :: a12 :: a13 :: a14 :: a15 :: a16 :: some (.int (iI z)) :: r) st := by
  obtain ⟨sd, E, P, l, p, e, R, s, m, args, below, meth, c⟩ := G
  obtain ⟨hx, hb, hr, hml, hown, hts, hK, hN, hlk, hR⟩ := C
  intro H locs ls hP hD hS hl
  obtain ⟨ls', e', h'⟩ := lh_store1 (v := .int (iI (z + n))) (i := 17) hl (by simp) rfl (lh_c1 (lo := (a0 :: a1 :: a2 :: a3 :: a4 :: a5 :: a6 :: a7 :: a8 :: a9 :: a10 :: a11 :: a12 :: a13 :: a14 :: a15 :: a16 :: some (.int (iI z)) :: r)) (i := 17) (Or.inr ⟨16, _, rfl, rfl, h1⟩))
  have hg : ls[17]? = some (.val (.int (iI z))) := hl.2.2 17 _ rfl
  have e2 : iI z + Int32.ofInt n = iI (z + n) := iI_add z n
  intro T hT X
  obtain ⟨t, a, b⟩ := k H locs ls' hP hD hS h' T hT X
  refine ⟨t, ?_, b⟩
  rw [← e2] at e'
  jvm_step X.here [X.here.top, hx, hb, d, hg, e']
  exact a
theorem r_iinc18 {G : zG} {cc : ByteArray} {own : String} {ret : Option FieldType} {nL fr lc : Nat} (C : zC G cc own ret nL fr lc) {M : zM} {r : List (Option Value)} {st : List Value} {pc : Nat} {a0 a1 a2 a3 a4 a5 a6 a7 a8 a9 a10 a11 a12 a13 a14 a15 a16 a17 : Option Value} {z n : Int} (h1 : zc1 a17 = true) (d : decode cc pc = .ok (.iinc 18 n, 3)) (k : VJ G M (pc + 3) (a0 :: a1 :: a2 :: a3 :: a4 :: a5 :: a6 :: a7 :: a8 :: a9 :: a10 :: a11 :: a12 :: a13 :: a14 :: a15 :: a16 :: a17 :: some (.int (iI (z + n))) :: r) st) : VJ G M pc (a0 :: a1 :: a2 :: a3 :: a4 :: a5 :: a6 :: a7 :: a8 :: a9 :: a10 :: a11 :: a12 :: a13 :: a14 :: a15 :: a16 :: a17 :: some (.int (iI z)) :: r) st := by
  obtain ⟨sd, E, P, l, p, e, R, s, m, args, below, meth, c⟩ := G
  obtain ⟨hx, hb, hr, hml, hown, hts, hK, hN, hlk, hR⟩ := C
  intro H locs ls hP hD hS hl
  obtain ⟨ls', e', h'⟩ := lh_store1 (v := .int (iI (z + n))) (i := 18) hl (by simp) rfl (lh_c1 (lo := (a0 :: a1 :: a2 :: a3 :: a4 :: a5 :: a6 :: a7 :: a8 :: a9 :: a10 :: a11 :: a12 :: a13 :: a14 :: a15 :: a16 :: a17 :: some (.int (iI z)) :: r)) (i := 18) (Or.inr ⟨17, _, rfl, rfl, h1⟩))
  have hg : ls[18]? = some (.val (.int (iI z))) := hl.2.2 18 _ rfl
  have e2 : iI z + Int32.ofInt n = iI (z + n) := iI_add z n
  intro T hT X
  obtain ⟨t, a, b⟩ := k H locs ls' hP hD hS h' T hT X
  refine ⟨t, ?_, b⟩
  rw [← e2] at e'
  jvm_step X.here [X.here.top, hx, hb, d, hg, e']
  exact a
theorem r_iinc19 {G : zG} {cc : ByteArray} {own : String} {ret : Option FieldType} {nL fr lc : Nat} (C : zC G cc own ret nL fr lc) {M : zM} {r : List (Option Value)} {st : List Value} {pc : Nat} {a0 a1 a2 a3 a4 a5 a6 a7 a8 a9 a10 a11 a12 a13 a14 a15 a16 a17 a18 : Option Value} {z n : Int} (h1 : zc1 a18 = true) (d : decode cc pc = .ok (.iinc 19 n, 3)) (k : VJ G M (pc + 3) (a0 :: a1 :: a2 :: a3 :: a4 :: a5 :: a6 :: a7 :: a8 :: a9 :: a10 :: a11 :: a12 :: a13 :: a14 :: a15 :: a16 :: a17 :: a18 :: some (.int (iI (z + n))) :: r) st) : VJ G M pc (a0 :: a1 :: a2 :: a3 :: a4 :: a5 :: a6 :: a7 :: a8 :: a9 :: a10 :: a11 :: a12 :: a13 :: a14 :: a15 :: a16 :: a17 :: a18 :: some (.int (iI z)) :: r) st := by
  obtain ⟨sd, E, P, l, p, e, R, s, m, args, below, meth, c⟩ := G
  obtain ⟨hx, hb, hr, hml, hown, hts, hK, hN, hlk, hR⟩ := C
  intro H locs ls hP hD hS hl
  obtain ⟨ls', e', h'⟩ := lh_store1 (v := .int (iI (z + n))) (i := 19) hl (by simp) rfl (lh_c1 (lo := (a0 :: a1 :: a2 :: a3 :: a4 :: a5 :: a6 :: a7 :: a8 :: a9 :: a10 :: a11 :: a12 :: a13 :: a14 :: a15 :: a16 :: a17 :: a18 :: some (.int (iI z)) :: r)) (i := 19) (Or.inr ⟨18, _, rfl, rfl, h1⟩))
  have hg : ls[19]? = some (.val (.int (iI z))) := hl.2.2 19 _ rfl
  have e2 : iI z + Int32.ofInt n = iI (z + n) := iI_add z n
  intro T hT X
  obtain ⟨t, a, b⟩ := k H locs ls' hP hD hS h' T hT X
  refine ⟨t, ?_, b⟩
  rw [← e2] at e'
  jvm_step X.here [X.here.top, hx, hb, d, hg, e']
  exact a
theorem r_iinc20 {G : zG} {cc : ByteArray} {own : String} {ret : Option FieldType} {nL fr lc : Nat} (C : zC G cc own ret nL fr lc) {M : zM} {r : List (Option Value)} {st : List Value} {pc : Nat} {a0 a1 a2 a3 a4 a5 a6 a7 a8 a9 a10 a11 a12 a13 a14 a15 a16 a17 a18 a19 : Option Value} {z n : Int} (h1 : zc1 a19 = true) (d : decode cc pc = .ok (.iinc 20 n, 3)) (k : VJ G M (pc + 3) (a0 :: a1 :: a2 :: a3 :: a4 :: a5 :: a6 :: a7 :: a8 :: a9 :: a10 :: a11 :: a12 :: a13 :: a14 :: a15 :: a16 :: a17 :: a18 :: a19 :: some (.int (iI (z + n))) :: r) st) : VJ G M pc (a0 :: a1 :: a2 :: a3 :: a4 :: a5 :: a6 :: a7 :: a8 :: a9 :: a10 :: a11 :: a12 :: a13 :: a14 :: a15 :: a16 :: a17 :: a18 :: a19 :: some (.int (iI z)) :: r) st := by
  obtain ⟨sd, E, P, l, p, e, R, s, m, args, below, meth, c⟩ := G
  obtain ⟨hx, hb, hr, hml, hown, hts, hK, hN, hlk, hR⟩ := C
  intro H locs ls hP hD hS hl
  obtain ⟨ls', e', h'⟩ := lh_store1 (v := .int (iI (z + n))) (i := 20) hl (by simp) rfl (lh_c1 (lo := (a0 :: a1 :: a2 :: a3 :: a4 :: a5 :: a6 :: a7 :: a8 :: a9 :: a10 :: a11 :: a12 :: a13 :: a14 :: a15 :: a16 :: a17 :: a18 :: a19 :: some (.int (iI z)) :: r)) (i := 20) (Or.inr ⟨19, _, rfl, rfl, h1⟩))
  have hg : ls[20]? = some (.val (.int (iI z))) := hl.2.2 20 _ rfl
  have e2 : iI z + Int32.ofInt n = iI (z + n) := iI_add z n
  intro T hT X
  obtain ⟨t, a, b⟩ := k H locs ls' hP hD hS h' T hT X
  refine ⟨t, ?_, b⟩
  rw [← e2] at e'
  jvm_step X.here [X.here.top, hx, hb, d, hg, e']
  exact a
theorem r_iinc21 {G : zG} {cc : ByteArray} {own : String} {ret : Option FieldType} {nL fr lc : Nat} (C : zC G cc own ret nL fr lc) {M : zM} {r : List (Option Value)} {st : List Value} {pc : Nat} {a0 a1 a2 a3 a4 a5 a6 a7 a8 a9 a10 a11 a12 a13 a14 a15 a16 a17 a18 a19 a20 : Option Value} {z n : Int} (h1 : zc1 a20 = true) (d : decode cc pc = .ok (.iinc 21 n, 3)) (k : VJ G M (pc + 3) (a0 :: a1 :: a2 :: a3 :: a4 :: a5 :: a6 :: a7 :: a8 :: a9 :: a10 :: a11 :: a12 :: a13 :: a14 :: a15 :: a16 :: a17 :: a18 :: a19 :: a20 :: some (.int (iI (z + n))) :: r) st) : VJ G M pc (a0 :: a1 :: a2 :: a3 :: a4 :: a5 :: a6 :: a7 :: a8 :: a9 :: a10 :: a11 :: a12 :: a13 :: a14 :: a15 :: a16 :: a17 :: a18 :: a19 :: a20 :: some (.int (iI z)) :: r) st := by
  obtain ⟨sd, E, P, l, p, e, R, s, m, args, below, meth, c⟩ := G
  obtain ⟨hx, hb, hr, hml, hown, hts, hK, hN, hlk, hR⟩ := C
  intro H locs ls hP hD hS hl
  obtain ⟨ls', e', h'⟩ := lh_store1 (v := .int (iI (z + n))) (i := 21) hl (by simp) rfl (lh_c1 (lo := (a0 :: a1 :: a2 :: a3 :: a4 :: a5 :: a6 :: a7 :: a8 :: a9 :: a10 :: a11 :: a12 :: a13 :: a14 :: a15 :: a16 :: a17 :: a18 :: a19 :: a20 :: some (.int (iI z)) :: r)) (i := 21) (Or.inr ⟨20, _, rfl, rfl, h1⟩))
  have hg : ls[21]? = some (.val (.int (iI z))) := hl.2.2 21 _ rfl
  have e2 : iI z + Int32.ofInt n = iI (z + n) := iI_add z n
  intro T hT X
  obtain ⟨t, a, b⟩ := k H locs ls' hP hD hS h' T hT X
  refine ⟨t, ?_, b⟩
  rw [← e2] at e'
  jvm_step X.here [X.here.top, hx, hb, d, hg, e']
  exact a
theorem r_icmp_eq {G : zG} {cc : ByteArray} {own : String} {ret : Option FieldType} {nL fr lc : Nat} (C : zC G cc own ret nL fr lc) {M : zM} {lo : List (Option Value)} {st : List Value} {pc : Nat} {a b : Int} (ha : -2147483648 ≤ a ∧ a < 2147483648) (hb0 : -2147483648 ≤ b ∧ b < 2147483648) {off : Int} {tgt : Nat} (d : decode cc pc = .ok (.if_icmp .eq off, 3)) (ht : (pc : Int) + off = (tgt : Int)) (kt : a = b → VJ G M tgt lo st) (kf : ¬ (a = b) → VJ G M (pc + 3) lo st) : VJ G M pc lo (.int (iI b) :: .int (iI a) :: st) := by
  obtain ⟨sd, E, P, l, p, e, R, s, m, args, below, meth, c⟩ := G
  obtain ⟨hx, hb, hr, hml, hown, hts, hK, hN, hlk, hR⟩ := C
  intro H locs ls hP hD hS hl
  exact lv_icmp_eq hx hb d ht (fun q => kt ((iI_eq ha hb0).mp q) H locs ls hP hD hS hl) (fun q => kf (fun z => q ((iI_eq ha hb0).mpr z)) H locs ls hP hD hS hl)
theorem r_if_eq {G : zG} {cc : ByteArray} {own : String} {ret : Option FieldType} {nL fr lc : Nat} (C : zC G cc own ret nL fr lc) {M : zM} {lo : List (Option Value)} {st : List Value} {pc : Nat} {a : Int} (ha : -2147483648 ≤ a ∧ a < 2147483648) {off : Int} {tgt : Nat} (d : decode cc pc = .ok (.ifCond .eq off, 3)) (ht : (pc : Int) + off = (tgt : Int)) (kt : a = 0 → VJ G M tgt lo st) (kf : ¬ (a = 0) → VJ G M (pc + 3) lo st) : VJ G M pc lo (.int (iI a) :: st) := by
  obtain ⟨sd, E, P, l, p, e, R, s, m, args, below, meth, c⟩ := G
  obtain ⟨hx, hb, hr, hml, hown, hts, hK, hN, hlk, hR⟩ := C
  intro H locs ls hP hD hS hl
  exact lv_if_eq hx hb d ht (fun q => kt ((iI_eq (b := 0) ha (by decide)).mp q) H locs ls hP hD hS hl) (fun q => kf (fun z => q ((iI_eq (b := 0) ha (by decide)).mpr z)) H locs ls hP hD hS hl)
theorem r_lcmp_eq {G : zG} {cc : ByteArray} {own : String} {ret : Option FieldType} {nL fr lc : Nat} (C : zC G cc own ret nL fr lc) {M : zM} {lo : List (Option Value)} {st : List Value} {pc : Nat} {x y : Int64} {off : Int} {tgt : Nat} (d1 : decode cc pc = .ok (.lcmp, 1)) (d : decode cc (pc + 1) = .ok (.ifCond .eq off, 3)) (ht : ((pc + 1 : Nat) : Int) + off = (tgt : Int)) (kt : x = y → VJ G M tgt lo st) (kf : ¬ (x = y) → VJ G M (pc + 1 + 3) lo st) : VJ G M pc lo (.long y :: .long x :: st) := by
  obtain ⟨sd, E, P, l, p, e, R, s, m, args, below, meth, c⟩ := G
  obtain ⟨hx, hb, hr, hml, hown, hts, hK, hN, hlk, hR⟩ := C
  intro H locs ls hP hD hS hl
  refine W.lcmp hx hb d1 ?_
  exact lv_if_eq hx hb d ht (fun q => kt ((lg_cmp_eq x y).mp q) H locs ls hP hD hS hl) (fun q => kf (fun z => q ((lg_cmp_eq x y).mpr z)) H locs ls hP hD hS hl)
theorem r_icmp_ne {G : zG} {cc : ByteArray} {own : String} {ret : Option FieldType} {nL fr lc : Nat} (C : zC G cc own ret nL fr lc) {M : zM} {lo : List (Option Value)} {st : List Value} {pc : Nat} {a b : Int} (ha : -2147483648 ≤ a ∧ a < 2147483648) (hb0 : -2147483648 ≤ b ∧ b < 2147483648) {off : Int} {tgt : Nat} (d : decode cc pc = .ok (.if_icmp .ne off, 3)) (ht : (pc : Int) + off = (tgt : Int)) (kt : ¬ a = b → VJ G M tgt lo st) (kf : a = b → VJ G M (pc + 3) lo st) : VJ G M pc lo (.int (iI b) :: .int (iI a) :: st) := by
  obtain ⟨sd, E, P, l, p, e, R, s, m, args, below, meth, c⟩ := G
  obtain ⟨hx, hb, hr, hml, hown, hts, hK, hN, hlk, hR⟩ := C
  intro H locs ls hP hD hS hl
  exact lv_icmp_ne hx hb d ht (fun q => kt ((not_congr (iI_eq ha hb0)).mp q) H locs ls hP hD hS hl) (fun q => kf ((iI_eq ha hb0).mp q) H locs ls hP hD hS hl)
theorem r_if_ne {G : zG} {cc : ByteArray} {own : String} {ret : Option FieldType} {nL fr lc : Nat} (C : zC G cc own ret nL fr lc) {M : zM} {lo : List (Option Value)} {st : List Value} {pc : Nat} {a : Int} (ha : -2147483648 ≤ a ∧ a < 2147483648) {off : Int} {tgt : Nat} (d : decode cc pc = .ok (.ifCond .ne off, 3)) (ht : (pc : Int) + off = (tgt : Int)) (kt : ¬ a = 0 → VJ G M tgt lo st) (kf : a = 0 → VJ G M (pc + 3) lo st) : VJ G M pc lo (.int (iI a) :: st) := by
  obtain ⟨sd, E, P, l, p, e, R, s, m, args, below, meth, c⟩ := G
  obtain ⟨hx, hb, hr, hml, hown, hts, hK, hN, hlk, hR⟩ := C
  intro H locs ls hP hD hS hl
  exact lv_if_ne hx hb d ht (fun q => kt ((not_congr (iI_eq (b := 0) ha (by decide))).mp q) H locs ls hP hD hS hl) (fun q => kf ((iI_eq (b := 0) ha (by decide)).mp q) H locs ls hP hD hS hl)
theorem r_lcmp_ne {G : zG} {cc : ByteArray} {own : String} {ret : Option FieldType} {nL fr lc : Nat} (C : zC G cc own ret nL fr lc) {M : zM} {lo : List (Option Value)} {st : List Value} {pc : Nat} {x y : Int64} {off : Int} {tgt : Nat} (d1 : decode cc pc = .ok (.lcmp, 1)) (d : decode cc (pc + 1) = .ok (.ifCond .ne off, 3)) (ht : ((pc + 1 : Nat) : Int) + off = (tgt : Int)) (kt : ¬ x = y → VJ G M tgt lo st) (kf : x = y → VJ G M (pc + 1 + 3) lo st) : VJ G M pc lo (.long y :: .long x :: st) := by
  obtain ⟨sd, E, P, l, p, e, R, s, m, args, below, meth, c⟩ := G
  obtain ⟨hx, hb, hr, hml, hown, hts, hK, hN, hlk, hR⟩ := C
  intro H locs ls hP hD hS hl
  refine W.lcmp hx hb d1 ?_
  exact lv_if_ne hx hb d ht (fun q => kt ((not_congr (lg_cmp_eq x y)).mp q) H locs ls hP hD hS hl) (fun q => kf ((lg_cmp_eq x y).mp q) H locs ls hP hD hS hl)
theorem r_icmp_lt {G : zG} {cc : ByteArray} {own : String} {ret : Option FieldType} {nL fr lc : Nat} (C : zC G cc own ret nL fr lc) {M : zM} {lo : List (Option Value)} {st : List Value} {pc : Nat} {a b : Int} (ha : -2147483648 ≤ a ∧ a < 2147483648) (hb0 : -2147483648 ≤ b ∧ b < 2147483648) {off : Int} {tgt : Nat} (d : decode cc pc = .ok (.if_icmp .lt off, 3)) (ht : (pc : Int) + off = (tgt : Int)) (kt : a < b → VJ G M tgt lo st) (kf : ¬ (a < b) → VJ G M (pc + 3) lo st) : VJ G M pc lo (.int (iI b) :: .int (iI a) :: st) := by
  obtain ⟨sd, E, P, l, p, e, R, s, m, args, below, meth, c⟩ := G
  obtain ⟨hx, hb, hr, hml, hown, hts, hK, hN, hlk, hR⟩ := C
  intro H locs ls hP hD hS hl
  exact lv_icmp_lt hx hb d ht (fun q => kt ((iI_lt ha hb0).mp q) H locs ls hP hD hS hl) (fun q => kf (fun z => q ((iI_lt ha hb0).mpr z)) H locs ls hP hD hS hl)
theorem r_if_lt {G : zG} {cc : ByteArray} {own : String} {ret : Option FieldType} {nL fr lc : Nat} (C : zC G cc own ret nL fr lc) {M : zM} {lo : List (Option Value)} {st : List Value} {pc : Nat} {a : Int} (ha : -2147483648 ≤ a ∧ a < 2147483648) {off : Int} {tgt : Nat} (d : decode cc pc = .ok (.ifCond .lt off, 3)) (ht : (pc : Int) + off = (tgt : Int)) (kt : a < 0 → VJ G M tgt lo st) (kf : ¬ (a < 0) → VJ G M (pc + 3) lo st) : VJ G M pc lo (.int (iI a) :: st) := by
  obtain ⟨sd, E, P, l, p, e, R, s, m, args, below, meth, c⟩ := G
  obtain ⟨hx, hb, hr, hml, hown, hts, hK, hN, hlk, hR⟩ := C
  intro H locs ls hP hD hS hl
  exact lv_if_lt hx hb d ht (fun q => kt ((iI_lt (b := 0) ha (by decide)).mp q) H locs ls hP hD hS hl) (fun q => kf (fun z => q ((iI_lt (b := 0) ha (by decide)).mpr z)) H locs ls hP hD hS hl)
theorem r_lcmp_lt {G : zG} {cc : ByteArray} {own : String} {ret : Option FieldType} {nL fr lc : Nat} (C : zC G cc own ret nL fr lc) {M : zM} {lo : List (Option Value)} {st : List Value} {pc : Nat} {x y : Int64} {off : Int} {tgt : Nat} (d1 : decode cc pc = .ok (.lcmp, 1)) (d : decode cc (pc + 1) = .ok (.ifCond .lt off, 3)) (ht : ((pc + 1 : Nat) : Int) + off = (tgt : Int)) (kt : x < y → VJ G M tgt lo st) (kf : ¬ (x < y) → VJ G M (pc + 1 + 3) lo st) : VJ G M pc lo (.long y :: .long x :: st) := by
  obtain ⟨sd, E, P, l, p, e, R, s, m, args, below, meth, c⟩ := G
  obtain ⟨hx, hb, hr, hml, hown, hts, hK, hN, hlk, hR⟩ := C
  intro H locs ls hP hD hS hl
  refine W.lcmp hx hb d1 ?_
  exact lv_if_lt hx hb d ht (fun q => kt ((lg_cmp_lt x y).mp q) H locs ls hP hD hS hl) (fun q => kf (fun z => q ((lg_cmp_lt x y).mpr z)) H locs ls hP hD hS hl)
theorem r_icmp_ge {G : zG} {cc : ByteArray} {own : String} {ret : Option FieldType} {nL fr lc : Nat} (C : zC G cc own ret nL fr lc) {M : zM} {lo : List (Option Value)} {st : List Value} {pc : Nat} {a b : Int} (ha : -2147483648 ≤ a ∧ a < 2147483648) (hb0 : -2147483648 ≤ b ∧ b < 2147483648) {off : Int} {tgt : Nat} (d : decode cc pc = .ok (.if_icmp .ge off, 3)) (ht : (pc : Int) + off = (tgt : Int)) (kt : b ≤ a → VJ G M tgt lo st) (kf : ¬ (b ≤ a) → VJ G M (pc + 3) lo st) : VJ G M pc lo (.int (iI b) :: .int (iI a) :: st) := by
  obtain ⟨sd, E, P, l, p, e, R, s, m, args, below, meth, c⟩ := G
  obtain ⟨hx, hb, hr, hml, hown, hts, hK, hN, hlk, hR⟩ := C
  intro H locs ls hP hD hS hl
  exact lv_icmp_ge hx hb d ht (fun q => kt ((iI_le hb0 ha).mp q) H locs ls hP hD hS hl) (fun q => kf (fun z => q ((iI_le hb0 ha).mpr z)) H locs ls hP hD hS hl)
theorem r_if_ge {G : zG} {cc : ByteArray} {own : String} {ret : Option FieldType} {nL fr lc : Nat} (C : zC G cc own ret nL fr lc) {M : zM} {lo : List (Option Value)} {st : List Value} {pc : Nat} {a : Int} (ha : -2147483648 ≤ a ∧ a < 2147483648) {off : Int} {tgt : Nat} (d : decode cc pc = .ok (.ifCond .ge off, 3)) (ht : (pc : Int) + off = (tgt : Int)) (kt : 0 ≤ a → VJ G M tgt lo st) (kf : ¬ (0 ≤ a) → VJ G M (pc + 3) lo st) : VJ G M pc lo (.int (iI a) :: st) := by
  obtain ⟨sd, E, P, l, p, e, R, s, m, args, below, meth, c⟩ := G
  obtain ⟨hx, hb, hr, hml, hown, hts, hK, hN, hlk, hR⟩ := C
  intro H locs ls hP hD hS hl
  exact lv_if_ge hx hb d ht (fun q => kt ((iI_le (a := 0) (by decide) ha).mp q) H locs ls hP hD hS hl) (fun q => kf (fun z => q ((iI_le (a := 0) (by decide) ha).mpr z)) H locs ls hP hD hS hl)
theorem r_lcmp_ge {G : zG} {cc : ByteArray} {own : String} {ret : Option FieldType} {nL fr lc : Nat} (C : zC G cc own ret nL fr lc) {M : zM} {lo : List (Option Value)} {st : List Value} {pc : Nat} {x y : Int64} {off : Int} {tgt : Nat} (d1 : decode cc pc = .ok (.lcmp, 1)) (d : decode cc (pc + 1) = .ok (.ifCond .ge off, 3)) (ht : ((pc + 1 : Nat) : Int) + off = (tgt : Int)) (kt : y ≤ x → VJ G M tgt lo st) (kf : ¬ (y ≤ x) → VJ G M (pc + 1 + 3) lo st) : VJ G M pc lo (.long y :: .long x :: st) := by
  obtain ⟨sd, E, P, l, p, e, R, s, m, args, below, meth, c⟩ := G
  obtain ⟨hx, hb, hr, hml, hown, hts, hK, hN, hlk, hR⟩ := C
  intro H locs ls hP hD hS hl
  refine W.lcmp hx hb d1 ?_
  exact lv_if_ge hx hb d ht (fun q => kt ((lg_cmp_ge x y).mp q) H locs ls hP hD hS hl) (fun q => kf (fun z => q ((lg_cmp_ge x y).mpr z)) H locs ls hP hD hS hl)
theorem r_icmp_gt {G : zG} {cc : ByteArray} {own : String} {ret : Option FieldType} {nL fr lc : Nat} (C : zC G cc own ret nL fr lc) {M : zM} {lo : List (Option Value)} {st : List Value} {pc : Nat} {a b : Int} (ha : -2147483648 ≤ a ∧ a < 2147483648) (hb0 : -2147483648 ≤ b ∧ b < 2147483648) {off : Int} {tgt : Nat} (d : decode cc pc = .ok (.if_icmp .gt off, 3)) (ht : (pc : Int) + off = (tgt : Int)) (kt : b < a → VJ G M tgt lo st) (kf : ¬ (b < a) → VJ G M (pc + 3) lo st) : VJ G M pc lo (.int (iI b) :: .int (iI a) :: st) := by
  obtain ⟨sd, E, P, l, p, e, R, s, m, args, below, meth, c⟩ := G
  obtain ⟨hx, hb, hr, hml, hown, hts, hK, hN, hlk, hR⟩ := C
  intro H locs ls hP hD hS hl
  exact lv_icmp_gt hx hb d ht (fun q => kt ((iI_lt hb0 ha).mp q) H locs ls hP hD hS hl) (fun q => kf (fun z => q ((iI_lt hb0 ha).mpr z)) H locs ls hP hD hS hl)
theorem r_if_gt {G : zG} {cc : ByteArray} {own : String} {ret : Option FieldType} {nL fr lc : Nat} (C : zC G cc own ret nL fr lc) {M : zM} {lo : List (Option Value)} {st : List Value} {pc : Nat} {a : Int} (ha : -2147483648 ≤ a ∧ a < 2147483648) {off : Int} {tgt : Nat} (d : decode cc pc = .ok (.ifCond .gt off, 3)) (ht : (pc : Int) + off = (tgt : Int)) (kt : 0 < a → VJ G M tgt lo st) (kf : ¬ (0 < a) → VJ G M (pc + 3) lo st) : VJ G M pc lo (.int (iI a) :: st) := by
  obtain ⟨sd, E, P, l, p, e, R, s, m, args, below, meth, c⟩ := G
  obtain ⟨hx, hb, hr, hml, hown, hts, hK, hN, hlk, hR⟩ := C
  intro H locs ls hP hD hS hl
  exact lv_if_gt hx hb d ht (fun q => kt ((iI_lt (a := 0) (by decide) ha).mp q) H locs ls hP hD hS hl) (fun q => kf (fun z => q ((iI_lt (a := 0) (by decide) ha).mpr z)) H locs ls hP hD hS hl)
theorem r_lcmp_gt {G : zG} {cc : ByteArray} {own : String} {ret : Option FieldType} {nL fr lc : Nat} (C : zC G cc own ret nL fr lc) {M : zM} {lo : List (Option Value)} {st : List Value} {pc : Nat} {x y : Int64} {off : Int} {tgt : Nat} (d1 : decode cc pc = .ok (.lcmp, 1)) (d : decode cc (pc + 1) = .ok (.ifCond .gt off, 3)) (ht : ((pc + 1 : Nat) : Int) + off = (tgt : Int)) (kt : y < x → VJ G M tgt lo st) (kf : ¬ (y < x) → VJ G M (pc + 1 + 3) lo st) : VJ G M pc lo (.long y :: .long x :: st) := by
  obtain ⟨sd, E, P, l, p, e, R, s, m, args, below, meth, c⟩ := G
  obtain ⟨hx, hb, hr, hml, hown, hts, hK, hN, hlk, hR⟩ := C
  intro H locs ls hP hD hS hl
  refine W.lcmp hx hb d1 ?_
  exact lv_if_gt hx hb d ht (fun q => kt ((lg_cmp_gt x y).mp q) H locs ls hP hD hS hl) (fun q => kf (fun z => q ((lg_cmp_gt x y).mpr z)) H locs ls hP hD hS hl)
theorem r_icmp_le {G : zG} {cc : ByteArray} {own : String} {ret : Option FieldType} {nL fr lc : Nat} (C : zC G cc own ret nL fr lc) {M : zM} {lo : List (Option Value)} {st : List Value} {pc : Nat} {a b : Int} (ha : -2147483648 ≤ a ∧ a < 2147483648) (hb0 : -2147483648 ≤ b ∧ b < 2147483648) {off : Int} {tgt : Nat} (d : decode cc pc = .ok (.if_icmp .le off, 3)) (ht : (pc : Int) + off = (tgt : Int)) (kt : a ≤ b → VJ G M tgt lo st) (kf : ¬ (a ≤ b) → VJ G M (pc + 3) lo st) : VJ G M pc lo (.int (iI b) :: .int (iI a) :: st) := by
  obtain ⟨sd, E, P, l, p, e, R, s, m, args, below, meth, c⟩ := G
  obtain ⟨hx, hb, hr, hml, hown, hts, hK, hN, hlk, hR⟩ := C
  intro H locs ls hP hD hS hl
  exact lv_icmp_le hx hb d ht (fun q => kt ((iI_le ha hb0).mp q) H locs ls hP hD hS hl) (fun q => kf (fun z => q ((iI_le ha hb0).mpr z)) H locs ls hP hD hS hl)
theorem r_if_le {G : zG} {cc : ByteArray} {own : String} {ret : Option FieldType} {nL fr lc : Nat} (C : zC G cc own ret nL fr lc) {M : zM} {lo : List (Option Value)} {st : List Value} {pc : Nat} {a : Int} (ha : -2147483648 ≤ a ∧ a < 2147483648) {off : Int} {tgt : Nat} (d : decode cc pc = .ok (.ifCond .le off, 3)) (ht : (pc : Int) + off = (tgt : Int)) (kt : a ≤ 0 → VJ G M tgt lo st) (kf : ¬ (a ≤ 0) → VJ G M (pc + 3) lo st) : VJ G M pc lo (.int (iI a) :: st) := by
  obtain ⟨sd, E, P, l, p, e, R, s, m, args, below, meth, c⟩ := G
  obtain ⟨hx, hb, hr, hml, hown, hts, hK, hN, hlk, hR⟩ := C
  intro H locs ls hP hD hS hl
  exact lv_if_le hx hb d ht (fun q => kt ((iI_le (b := 0) ha (by decide)).mp q) H locs ls hP hD hS hl) (fun q => kf (fun z => q ((iI_le (b := 0) ha (by decide)).mpr z)) H locs ls hP hD hS hl)
theorem r_lcmp_le {G : zG} {cc : ByteArray} {own : String} {ret : Option FieldType} {nL fr lc : Nat} (C : zC G cc own ret nL fr lc) {M : zM} {lo : List (Option Value)} {st : List Value} {pc : Nat} {x y : Int64} {off : Int} {tgt : Nat} (d1 : decode cc pc = .ok (.lcmp, 1)) (d : decode cc (pc + 1) = .ok (.ifCond .le off, 3)) (ht : ((pc + 1 : Nat) : Int) + off = (tgt : Int)) (kt : x ≤ y → VJ G M tgt lo st) (kf : ¬ (x ≤ y) → VJ G M (pc + 1 + 3) lo st) : VJ G M pc lo (.long y :: .long x :: st) := by
  obtain ⟨sd, E, P, l, p, e, R, s, m, args, below, meth, c⟩ := G
  obtain ⟨hx, hb, hr, hml, hown, hts, hK, hN, hlk, hR⟩ := C
  intro H locs ls hP hD hS hl
  refine W.lcmp hx hb d1 ?_
  exact lv_if_le hx hb d ht (fun q => kt ((lg_cmp_le x y).mp q) H locs ls hP hD hS hl) (fun q => kf (fun z => q ((lg_cmp_le x y).mpr z)) H locs ls hP hD hS hl)
theorem r_ifeqB {G : zG} {cc : ByteArray} {own : String} {ret : Option FieldType} {nL fr lc : Nat} (C : zC G cc own ret nL fr lc) {M : zM} {lo : List (Option Value)} {st : List Value} {pc : Nat} {B : Prop} [Decidable B] {off : Int} {tgt : Nat} (d : decode cc pc = .ok (.ifCond .eq off, 3)) (ht : (pc : Int) + off = (tgt : Int)) (kt : ¬ B → VJ G M tgt lo st) (kf : B → VJ G M (pc + 3) lo st) : VJ G M pc lo (.int (iI (zb B)) :: st) := by
  refine r_if_eq C (by rcases zb_01 B with h | h <;> rw [h] <;> decide) d ht (fun q => kt (fun b => by rw [zb_pos b] at q; exact absurd q (by decide))) (fun q => kf (Classical.byContradiction fun b => q (zb_neg b)))
theorem r_ifneB {G : zG} {cc : ByteArray} {own : String} {ret : Option FieldType} {nL fr lc : Nat} (C : zC G cc own ret nL fr lc) {M : zM} {lo : List (Option Value)} {st : List Value} {pc : Nat} {B : Prop} [Decidable B] {off : Int} {tgt : Nat} (d : decode cc pc = .ok (.ifCond .ne off, 3)) (ht : (pc : Int) + off = (tgt : Int)) (kt : B → VJ G M tgt lo st) (kf : ¬ B → VJ G M (pc + 3) lo st) : VJ G M pc lo (.int (iI (zb B)) :: st) := by
  refine r_if_ne C (by rcases zb_01 B with h | h <;> rw [h] <;> decide) d ht (fun q => kt (Classical.byContradiction fun b => q (zb_neg b))) (fun q => kf (fun b => by rw [zb_pos b] at q; exact absurd q (by decide)))
theorem r_goto {G : zG} {cc : ByteArray} {own : String} {ret : Option FieldType} {nL fr lc : Nat} (C : zC G cc own ret nL fr lc) {M : zM} {lo : List (Option Value)} {st : List Value} {pc : Nat} {off : Int} {tgt : Nat} (d : decode cc pc = .ok (.goto off, 3)) (ht : (pc : Int) + off = (tgt : Int)) (k : VJ G M tgt lo st) : VJ G M pc lo st := by
  obtain ⟨sd, E, P, l, p, e, R, s, m, args, below, meth, c⟩ := G
  obtain ⟨hx, hb, hr, hml, hown, hts, hK, hN, hlk, hR⟩ := C
  intro H locs ls hP hD hS hl
  exact lv_goto hx hb d ht (k H locs ls hP hD hS hl)
theorem r_tabIn {G : zG} {cc : ByteArray} {own : String} {ret : Option FieldType} {nL fr lc : Nat} (C : zC G cc own ret nL fr lc) {M : zM} {lo : List (Option Value)} {st : List Value} {pc : Nat} {a : Int} (ha : -2147483648 ≤ a ∧ a < 2147483648) {dflt low hi : Int} {offs : Array Int} {len : Nat} {off : Int} {tgt : Nat} (d : decode cc pc = .ok (.tableswitch dflt low hi offs, len)) (h1 : low ≤ a) (h2 : a ≤ hi) (ho : offs[(a - low).toNat]? = some off) (ht : (pc : Int) + off = (tgt : Int)) (k : VJ G M tgt lo st) : VJ G M pc lo (.int (iI a) :: st) := by
  obtain ⟨sd, E, P, l, p, e, R, s, m, args, below, meth, c⟩ := G
  obtain ⟨hx, hb, hr, hml, hown, hts, hK, hN, hlk, hR⟩ := C
  intro H locs ls hP hD hS hl
  exact lv_tableIn hx hb d (by rw [iI_toInt ha]; omega) (by rw [iI_toInt ha]; omega) (by rw [iI_toInt ha]; exact ho) ht (k H locs ls hP hD hS hl)
theorem r_tabOut {G : zG} {cc : ByteArray} {own : String} {ret : Option FieldType} {nL fr lc : Nat} (C : zC G cc own ret nL fr lc) {M : zM} {lo : List (Option Value)} {st : List Value} {pc : Nat} {a : Int} (ha : -2147483648 ≤ a ∧ a < 2147483648) {dflt low hi : Int} {offs : Array Int} {len : Nat} {tgt : Nat} (d : decode cc pc = .ok (.tableswitch dflt low hi offs, len)) (h : a < low ∨ hi < a) (ht : (pc : Int) + dflt = (tgt : Int)) (k : VJ G M tgt lo st) : VJ G M pc lo (.int (iI a) :: st) := by
  obtain ⟨sd, E, P, l, p, e, R, s, m, args, below, meth, c⟩ := G
  obtain ⟨hx, hb, hr, hml, hown, hts, hK, hN, hlk, hR⟩ := C
  intro H locs ls hP hD hS hl
  exact lv_tableOut hx hb d (by rw [iI_toInt ha]; exact h) ht (k H locs ls hP hD hS hl)
theorem r_iret {G : zG} {cc : ByteArray} {own : String} {nL fr lc : Nat} (C : zC G cc own (some .int) nL fr lc) {M : zM} {lo : List (Option Value)} {pc : Nat} {p0 : Int → zM → Prop} {z : Int} (hQ : G.2.2.1 = zPi p0) (h : p0 z M) (d : decode cc pc = .ok (.ireturn, 1)) : VJ G M pc lo [.int (iI z)] := by
  obtain ⟨sd, E, P, l, p, e, R, s, m, args, below, meth, c⟩ := G
  obtain ⟨hx, hb, hr, hml, hown, hts, hK, hN, hlk, hR⟩ := C
  intro H locs ls hP hD hS hl
  have hQ : P = zPi p0 := hQ
  subst hQ
  exact W.iret (v := iI z) hx hb hr (fun t ht hW => ⟨⟨_, M, rfl, ⟨z, rfl, h⟩, by rw [ht]; exact hP, hD, va_K.moved hW.alike hK, hN.warm hW⟩, hS.F ht⟩) hS.2.2 d
theorem r_zret {G : zG} {cc : ByteArray} {own : String} {nL fr lc : Nat} (C : zC G cc own (some .boolean) nL fr lc) {M : zM} {lo : List (Option Value)} {pc : Nat} {p0 : Int → zM → Prop} {z : Int} (hQ : G.2.2.1 = zPi p0) (h01 : z = 0 ∨ z = 1) (h : p0 z M) (d : decode cc pc = .ok (.ireturn, 1)) : VJ G M pc lo [.int (iI z)] := by
  obtain ⟨sd, E, P, l, p, e, R, s, m, args, below, meth, c⟩ := G
  obtain ⟨hx, hb, hr, hml, hown, hts, hK, hN, hlk, hR⟩ := C
  intro H locs ls hP hD hS hl
  have hQ : P = zPi p0 := hQ
  subst hQ
  exact W.zret (v := iI z) (ty := .boolean) hx hb hr (by rcases h01 with rfl | rfl <;> rfl) (fun t ht hW => ⟨⟨_, M, rfl, ⟨z, rfl, h⟩, by rw [ht]; exact hP, hD, va_K.moved hW.alike hK, hN.warm hW⟩, hS.F ht⟩) hS.2.2 d
theorem r_lret {G : zG} {cc : ByteArray} {own : String} {nL fr lc : Nat} (C : zC G cc own (some .long) nL fr lc) {M : zM} {lo : List (Option Value)} {pc : Nat} {p0 : Int64 → zM → Prop} {x : Int64} (hQ : G.2.2.1 = zPl p0) (h : p0 x M) (d : decode cc pc = .ok (.lreturn, 1)) : VJ G M pc lo [.long x] := by
  obtain ⟨sd, E, P, l, p, e, R, s, m, args, below, meth, c⟩ := G
  obtain ⟨hx, hb, hr, hml, hown, hts, hK, hN, hlk, hR⟩ := C
  intro H locs ls hP hD hS hl
  have hQ : P = zPl p0 := hQ
  subst hQ
  exact W.lret (v := x) hx hb hr (fun t ht hW => ⟨⟨_, M, rfl, ⟨x, rfl, h⟩, by rw [ht]; exact hP, hD, va_K.moved hW.alike hK, hN.warm hW⟩, hS.F ht⟩) hS.2.2 d
theorem r_vret {G : zG} {cc : ByteArray} {own : String} {nL fr lc : Nat} (C : zC G cc own none nL fr lc) {M : zM} {lo : List (Option Value)} {pc : Nat} {p0 : zM → Prop} (hQ : G.2.2.1 = zPv p0) (h : p0 M) (d : decode cc pc = .ok (.return_, 1)) : VJ G M pc lo [] := by
  obtain ⟨sd, E, P, l, p, e, R, s, m, args, below, meth, c⟩ := G
  obtain ⟨hx, hb, hr, hml, hown, hts, hK, hN, hlk, hR⟩ := C
  intro H locs ls hP hD hS hl
  have hQ : P = zPv p0 := hQ
  subst hQ
  exact W.vret hx hb hr (fun t ht hW => ⟨⟨_, M, rfl, ⟨rfl, h⟩, by rw [ht]; exact hP, hD, va_K.moved hW.alike hK, hN.warm hW⟩, hS.F ht⟩) hS.2.2 d
