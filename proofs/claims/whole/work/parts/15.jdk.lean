theorem zK.ofF {l : Launch} {sd : zSd} {E : zE} {y : MethodName} {bytes : ByteArray} {maxL : Nat} {ret : Option FieldType} {fr lc : Nat} {As : List Value} {M : zM} {P : Option Value → zM → Prop} (own : String) (ho : y.cls = own) (hy : plainFor y = true) (hlen : (zlo As).length ≤ maxL)
    (body : ∀ G : zG, G.1 = sd → G.2.1 = E → G.2.2.1 = P → G.2.2.2.1 = l → zC G bytes own ret maxL fr lc → VJ G M 0 (zlo As ++ List.replicate (maxL - (zlo As).length) none) []) : zK l sd E y bytes maxL ret fr lc As M P := by
  refine va_MetF (cc := bytes) (maxL := maxL) (ret := ret) hy rfl ?_
  intro p e s m args below meth c s₁ B hml hv
  obtain ⟨rfl, hP, hD, hK, hN⟩ := hv
  have hts := atoms_spec (ws := Cond.code y bytes maxL ret :: tb) B.pre
  have hown : s.vm.findClass own = some m.cls := ho ▸ findClass_of_methodNamed B.named
  have hb := body (sd, E, P, l, p, e, (headSpec (Cond.code y bytes maxL ret :: tb) (zRm fr lc)).room, s, m, As.toArray, below, meth, c) rfl rfl rfl rfl ⟨B.exec, B.bytes, B.returns, hml, hown, fun w hw => hts w (List.mem_cons_of_mem _ hw), hK, hN, B.notSynchronized, rfl⟩
  rw [lg_entry_eq]
  exact hb s.heap [] _ hP hD va_S.rf (lh_entry hlen)
theorem lI_add (a b : Int) : lI a + lI b = lI (a + b) := (Int64.ofInt_add a b).symm
theorem lI_sub (a b : Int) : lI a - lI b = lI (a - b) := (Int64.ofInt_sub a b).symm
theorem lI_mul (a b : Int) : lI a * lI b = lI (a * b) := (Int64.ofInt_mul a b).symm
theorem lI_toInt {a : Int} (h : -9223372036854775808 ≤ a ∧ a < 9223372036854775808) : (lI a).toInt = a := Int64.toInt_ofInt_of_le (by simpa using h.1) (by simpa using h.2)
theorem lI_lt {a b : Int} (ha : -9223372036854775808 ≤ a ∧ a < 9223372036854775808) (hb : -9223372036854775808 ≤ b ∧ b < 9223372036854775808) : lI a < lI b ↔ a < b := by rw [Int64.lt_iff_toInt_lt, lI_toInt ha, lI_toInt hb]
theorem lI_le {a b : Int} (ha : -9223372036854775808 ≤ a ∧ a < 9223372036854775808) (hb : -9223372036854775808 ≤ b ∧ b < 9223372036854775808) : lI a ≤ lI b ↔ a ≤ b := by rw [Int64.le_iff_toInt_le, lI_toInt ha, lI_toInt hb]
theorem lI_eq {a b : Int} (ha : -9223372036854775808 ≤ a ∧ a < 9223372036854775808) (hb : -9223372036854775808 ≤ b ∧ b < 9223372036854775808) : lI a = lI b ↔ a = b := by rw [← Int64.toInt_inj, lI_toInt ha, lI_toInt hb]
theorem lI_nat (n : Nat) : lI (n : Int) = lN n := Int64.toInt_inj.mp (by simp [lI, lN, Int64.toInt_ofInt, Int64.toInt_ofNat'])
theorem lI_0 : lI 0 = 0 := rfl
theorem L_pos {y : Int64} (hy : 0 < y) : 0 < y.toInt := by simpa [Int64.lt_iff_toInt_lt] using hy
theorem L_div {x y : Int64} (hy : 0 < y) : (x / y).toInt = x.toInt.tdiv y.toInt := Int64.toInt_div_of_ne_right x y (fun h => by rw [h] at hy; exact absurd hy (by decide))
theorem L_rng (x : Int64) : -9223372036854775808 ≤ x.toInt ∧ x.toInt < 9223372036854775808 := ⟨Int64.le_toInt x, Int64.toInt_lt x⟩
theorem L_bmod {z : Int} (h1 : -9223372036854775808 ≤ z) (h2 : z < 9223372036854775808) : z.bmod (2 ^ 64) = z := Int.bmod_eq_of_le (by simp; omega) (by simp; omega)
theorem L_tm {X Y : Int} (hY : 0 < Y) : (0 ≤ X → 0 ≤ Y * X.tdiv Y ∧ Y * X.tdiv Y ≤ X) ∧ (X < 0 → X ≤ Y * X.tdiv Y ∧ Y * X.tdiv Y ≤ 0) := by
  have e := Int.mul_tdiv_add_tmod X Y
  constructor
  · intro h
    have h1 := Int.tmod_nonneg (a := X) Y h
    have h2 := Int.tdiv_nonneg h (Int.le_of_lt hY)
    have h3 := Int.mul_nonneg (Int.le_of_lt hY) h2
    omega
  · intro h
    have h1 := Int.tmod_nonneg (a := -X) Y (by omega)
    rw [Int.neg_tmod] at h1
    have h2 := Int.tdiv_nonneg (a := -X) (by omega) (Int.le_of_lt hY)
    rw [Int.neg_tdiv] at h2
    have h3 := Int.mul_nonneg (Int.le_of_lt hY) h2
    rw [Int.mul_neg] at h3
    omega
theorem L_mulq {x y : Int64} (hy : 0 < y) : (x / y * y).toInt = y.toInt * x.toInt.tdiv y.toInt := by
  have hY := L_pos hy
  have hx := L_rng x
  rw [Int64.toInt_mul, L_div hy, Int.mul_comm]
  obtain ⟨h1, h2⟩ := L_tm (X := x.toInt) hY
  rcases Int.lt_or_le x.toInt 0 with h | h
  · have := h2 h
    exact L_bmod (by omega) (by omega)
  · have := h1 h
    exact L_bmod (by omega) (by omega)
theorem L_rem {x y : Int64} (hy : 0 < y) : (x - x / y * y).toInt = x.toInt.tmod y.toInt := by
  have hY := L_pos hy
  have hx := L_rng x
  have e := Int.mul_tdiv_add_tmod x.toInt y.toInt
  rw [Int64.toInt_sub, L_mulq hy]
  obtain ⟨h1, h2⟩ := L_tm (X := x.toInt) hY
  rw [show x.toInt - y.toInt * x.toInt.tdiv y.toInt = x.toInt.tmod y.toInt by omega]
  rcases Int.lt_or_le x.toInt 0 with h | h
  · have := h2 h
    exact L_bmod (by omega) (by omega)
  · have := h1 h
    exact L_bmod (by omega) (by omega)
theorem L_neg {x : Int64} : x < 0 ↔ x.toInt < 0 := by simp [Int64.lt_iff_toInt_lt]
theorem L_xor {x y : Int64} (hy : 0 < y) : (x ^^^ y < 0) ↔ x < 0 := by
  have hY := L_pos hy
  rw [L_neg, L_neg, ← Int64.toInt_toBitVec, ← Int64.toInt_toBitVec]
  have e : (x ^^^ y).toBitVec = x.toBitVec ^^^ y.toBitVec := rfl
  rw [e]
  have hm : y.toBitVec.msb = false := by
    rw [BitVec.msb_eq_false_iff_two_mul_lt]
    rw [← Int64.toInt_toBitVec, BitVec.toInt_eq_toNat_cond] at hY
    split at hY
    · assumption
    · have := y.toBitVec.isLt
      omega
  have key : ∀ z : BitVec 64, z.toInt < 0 ↔ z.msb = true := fun z => by
    rw [BitVec.msb_eq_toInt]
    simp
  rw [key, key, BitVec.msb_xor, hm, Bool.xor_false]
/-- the JDK's floorDiv, and ours -/
theorem fdv_0 {x y : Int64} (hy : 0 < y) (h : 0 ≤ x ^^^ y) : x / y = fdv x y := by
  have h1 : ¬ x < 0 := fun q => absurd ((L_xor hy).mpr q) (by simpa [Int64.not_lt] using h)
  have h2 : ¬ x - x / y * y < 0 := fun q => by
    rw [L_neg, L_rem hy] at q
    have := Int.tmod_nonneg (a := x.toInt) y.toInt (by rw [L_neg] at h1; omega)
    omega
  unfold fdv
  rw [if_neg h2]
theorem fdv_1 {x y : Int64} (hy : 0 < y) (h : x / y * y = x) : x / y = fdv x y := by
  unfold fdv
  rw [if_neg]
  rw [L_neg, L_rem hy]
  have e := Int.mul_tdiv_add_tmod x.toInt y.toInt
  have := L_mulq (x := x) hy
  rw [h] at this
  omega
theorem fdv_2 {x y : Int64} (hy : 0 < y) (h : ¬ 0 ≤ x ^^^ y) (h2 : ¬ x / y * y = x) : x / y - 1 = fdv x y := by
  have h1 : x < 0 := (L_xor hy).mp (by simpa [Int64.not_le] using h)
  unfold fdv
  rw [if_pos]
  rw [L_neg, L_rem hy]
  have e := Int.mul_tdiv_add_tmod x.toInt y.toInt
  have e2 := L_mulq (x := x) hy
  have h3 := ((L_tm (X := x.toInt) (L_pos hy)).2 (by rw [L_neg] at h1; exact h1)).1
  have h4 : ¬ y.toInt * x.toInt.tdiv y.toInt = x.toInt := fun q => h2 (Int64.toInt_inj.mp (by rw [e2, q]))
  omega
-- bits
theorem s_31 : ∀ n, n < 32 → ((nI n &&& 31).toBitVec.smod 32).toNat = n := by decide +kernel
theorem bi_shr {m i : Nat} (hm : m < 2147483648) (hi : i < 32) : iI (m : Int) >>> (iI (i : Int) &&& 31) = iI ((m / 2 ^ i : Nat) : Int) := by
  rw [iI_nI, iI_nI, iI_nI, pk_shrN (by omega) _ i (s_31 i hi)]
theorem bi_and (a b : Nat) : iI (a : Int) &&& iI (b : Int) = iI ((a &&& b : Nat) : Int) := by
  rw [iI_nI, iI_nI, iI_nI]
  apply Int32.toBitVec_inj.mp
  simp [nI]
theorem bi_or (a b : Nat) : iI (a : Int) ||| iI (b : Int) = iI ((a ||| b : Nat) : Int) := by
  rw [iI_nI, iI_nI, iI_nI]
  apply Int32.toBitVec_inj.mp
  simp [nI]
theorem bi_xor (a b : Nat) : iI (a : Int) ^^^ iI (b : Int) = iI ((a ^^^ b : Nat) : Int) := by
  rw [iI_nI, iI_nI, iI_nI]
  apply Int32.toBitVec_inj.mp
  simp [nI]
theorem bi_shl {i : Nat} (hi : i < 31) : iI (1 : Int) <<< (iI (i : Int) &&& 31) = iI ((2 ^ i : Nat) : Int) := by
  have e := pk_shlN (n := 1) (nI i &&& 31) i (s_31 i (by omega)) (by have := Nat.pow_lt_pow_right (a := 2) (by decide) (show i < 32 by omega); omega)
  rw [iI_nI, iI_nI, ← Nat.one_mul (2 ^ i), ← e]
  rfl
theorem bit_1 (m i : Nat) : (m / 2 ^ i &&& 1 = 0) ↔ ¬ m.testBit i = true := by
  rw [Nat.and_one_is_mod, Nat.testBit_eq_decide_div_mod_eq]
  simp
theorem bc_64 : ∀ a : Nat, a < 64 → ∀ b : Nat, b < 64 → (fun x : Int32 => (fun x1 : Int32 => (fun x2 : Int32 => (fun x3 : Int32 => (fun x4 : Int32 => (fun x5 : Int32 => x5 &&& iI 63) (x4 + (x4.toUInt32 >>> ((iI 16).toUInt32 &&& Int32.toUInt32 31)).toInt32)) (x3 + (x3.toUInt32 >>> ((iI 8).toUInt32 &&& Int32.toUInt32 31)).toInt32)) ((x2 + (x2.toUInt32 >>> ((iI 4).toUInt32 &&& Int32.toUInt32 31)).toInt32) &&& iI 252645135)) ((x1 &&& iI 858993459) + ((x1.toUInt32 >>> ((iI 2).toUInt32 &&& Int32.toUInt32 31)).toInt32 &&& iI 858993459))) (x - ((x.toUInt32 >>> ((iI 1).toUInt32 &&& Int32.toUInt32 31)).toInt32 &&& iI 1431655765))) (iI ((64 * a + b : Nat) : Int)) = iI ((dcnt (fun i => Nat.testBit (64 * a + b) i) 12 : Nat) : Int) := by decide +kernel
theorem bc_all (n : Nat) (hn : n < 4096) : (fun x : Int32 => (fun x1 : Int32 => (fun x2 : Int32 => (fun x3 : Int32 => (fun x4 : Int32 => (fun x5 : Int32 => x5 &&& iI 63) (x4 + (x4.toUInt32 >>> ((iI 16).toUInt32 &&& Int32.toUInt32 31)).toInt32)) (x3 + (x3.toUInt32 >>> ((iI 8).toUInt32 &&& Int32.toUInt32 31)).toInt32)) ((x2 + (x2.toUInt32 >>> ((iI 4).toUInt32 &&& Int32.toUInt32 31)).toInt32) &&& iI 252645135)) ((x1 &&& iI 858993459) + ((x1.toUInt32 >>> ((iI 2).toUInt32 &&& Int32.toUInt32 31)).toInt32 &&& iI 858993459))) (x - ((x.toUInt32 >>> ((iI 1).toUInt32 &&& Int32.toUInt32 31)).toInt32 &&& iI 1431655765))) (iI (n : Int)) = iI ((dcnt (fun i => Nat.testBit n i) 12 : Nat) : Int) := by
  have h := bc_64 (n / 64) (by omega) (n % 64) (by omega)
  rwa [show 64 * (n / 64) + n % 64 = n by omega] at h
theorem r_nami {G : zG} {M : zM} {pc : Nat} {lo : List (Option Value)} {st : List Value} {x : Int32} (k : ∀ y : Int32, y = x → VJ G M pc lo (.int y :: st)) : VJ G M pc lo (.int x :: st) := k x rfl
theorem r_naml {G : zG} {M : zM} {pc : Nat} {lo : List (Option Value)} {st : List Value} {x : Int64} (k : ∀ y : Int64, y = x → VJ G M pc lo (.long y :: st)) : VJ G M pc lo (.long x :: st) := k x rfl
def zcp (M : zM) (k0 k1 n : Nat) : zM := (M.1, fun a b => if a = k1 ∧ b < n then M.2 k0 b else M.2 a b)
theorem r_copyl {G : zG} {cc : ByteArray} {own : String} {ret : Option FieldType} {nL fr lc : Nat} (C : zC G cc own ret nL fr lc) {M : zM} {lo : List (Option Value)} {st : List Value} {pc : Nat} (hS : G.1 = sX) {k0 k1 n0 n1 idx : Nat} {z : Int} (hs0 : shX k0 = (2, n0)) (hs1 : shX k1 = (2, n1)) (hk0 : k0 < 129) (hk1 : k1 < 129) (hne : k0 ≠ k1) (hz : 0 ≤ z ∧ z ≤ n0 ∧ z ≤ n1 ∧ z < 2147483648) (hlink : Cond.methodLink own idx arraycopyName ∈ tb) (hroom : 1 ≤ fr ∧ (st.map fun v => v.category).sum + 18 ≤ lc) (hlo : lo.length = nL) (d : decode cc pc = .ok (.invokestatic idx, 3)) (kk : VJ G (zcp M k0 k1 z.toNat) (pc + 3) lo st) : VJ G M pc lo (.int (iI z) :: .int (iI 0) :: .ref (zad G k1) :: .int (iI 0) :: .ref (zad G k0) :: st) := by
  obtain ⟨sd, E, P, l, p, e, R, s, m, args, below, meth, c⟩ := G
  obtain ⟨hx, hb, hr, hml, hown, hts, hK, hN, hlk, hR⟩ := C
  intro H locs ls hP hD hS1 hl
  have hS : sd = sX := hS
  subst hS
  have he0 := (zw_at (sd := sX) (E := E) (M := M) hk0).trans (congrArg (fun q => some (E.2.2 k0, q)) (zce_l (sd := sX) hs0))
  have he1 := (zw_at (sd := sX) (E := E) (M := M) hk1).trans (congrArg (fun q => some (E.2.2 k1, q)) (zce_l (sd := sX) hs1))
  have e0 : (iI 0).toNatClampNeg = 0 := rfl
  have ez : (iI z).toNatClampNeg = z.toNat := by
    obtain ⟨n, rfl⟩ := Int.eq_ofNat_of_zero_le hz.1
    rw [iI_nI, nI_clamp (by omega), Int.toNat_natCast]
  have nz : ¬ iI z < 0 := by rw [← iI_0, iI_lt ⟨by omega, by omega⟩ (by decide)]; omega
  subst hR
  refine va_copyl hx hb (hml.trans (hlo.symm.trans hl.1.symm)) hown (hts _ hlink) (hts _ k_358) (hts _ k_357) (hts _ k_8) hK hP hD hS1 k0 k1 2 2 he0 he1 rfl rfl rfl (by decide) (by decide) nz (by rw [e0, ez]; omega) (by rw [e0, ez]; omega) (fun _ _ => rfl) hroom.1 (by show _ + (7 + 11) ≤ _; exact hroom.2) d (fun H1 locs1 hP1 hD1 hS2 => ?_)
  rw [e0, ez] at hP1 hD1
  have e : (zw sX E M).set k1 (E.2.2 k1, .inl (E.2.1 2, n1, .inr (.inl (va_cpy (fun i => M.2 k0 i) (fun i => M.2 k1 i) 0 0 z.toNat)))) = zw sX E (zcp M k0 k1 z.toNat) := by
    rw [← zw_set (M := M) (M' := zcp M k0 k1 z.toNat) hk1 (fun j hj => by
      have e9 : (zcp M k0 k1 z.toNat).2 j = M.2 j := by funext b; simp [zcp, hj]
      have e8 : (zcp M k0 k1 z.toNat).1 = M.1 := rfl
      unfold zce
      rw [e9, e8]), zce_l (sd := sX) hs1]
    have e7 : va_cpy (fun i => M.2 k0 i) (fun i => M.2 k1 i) 0 0 z.toNat = fun i => (zcp M k0 k1 z.toNat).2 k1 i := by
      funext j
      by_cases q : j < z.toNat
      · rw [pk_cpy_in (Nat.zero_le j) (by omega)]
        show M.2 k0 (0 + (j - 0)) = if k1 = k1 ∧ j < z.toNat then M.2 k0 j else M.2 k1 j
        rw [if_pos ⟨rfl, q⟩, Nat.zero_add, Nat.sub_zero]
      · rw [pk_cpy_out (Or.inr (by omega))]
        show M.2 k1 j = if k1 = k1 ∧ j < z.toNat then M.2 k0 j else M.2 k1 j
        rw [if_neg (fun h => q h.2)]
    exact congrArg (fun q => (zw sX E M).set k1 (E.2.2 k1, .inl (E.2.1 2, n1, .inr (.inl q)))) e7
  rw [e] at hP1 hD1
  exact kk H1 locs1 ls hP1 hD1 hS2 hl
set_option maxRecDepth 20000 in
theorem c_Ma_max (l : Launch) (E : zE) (M : zM) (a b : Int) (ha : -2147483648 ≤ a ∧ a < 2147483648) (hb : -2147483648 ≤ b ∧ b < 2147483648) : zK l sX E y_Ma_max b_Ma_max 2 (some .int) 0 0 [.int (iI a), .int (iI b)] M (zPi (fun r M2 => r = (if a < b then b else a) ∧ M = M2)) := by
  refine zK.ofF "java/lang/Math" rfl (by decide +kernel) (Nat.le_of_ble_eq_true rfl) ?_
  intro G hS hE hQ hL C
  subst hE
  subst hL
  show VJ G M 0 [some (.int (iI a)), some (.int (iI b))] []
  refine r_ild0 C (pc := 0) d_Ma_max_0 ?_
  refine r_ild1 C (pc := 1) d_Ma_max_1 ?_
  refine r_icmp_lt C (pc := 2) (tgt := 9) (by omega) (by omega) d_Ma_max_2 (by decide) (fun c2 => ?_) (fun c2 => ?_)
  · refine r_ild1 C (pc := 9) d_Ma_max_9 ?_
    exact r_iret C (pc := 10) hQ (⟨by first | rw [if_pos (by omega)] | rw [if_neg (by omega)], rfl⟩) d_Ma_max_10
  · refine r_ild0 C (pc := 5) d_Ma_max_5 ?_
    refine r_goto C (pc := 6) (tgt := 10) d_Ma_max_6 (by decide) ?_
    exact r_iret C (pc := 10) hQ (⟨by first | rw [if_pos (by omega)] | rw [if_neg (by omega)], rfl⟩) d_Ma_max_10
set_option maxRecDepth 20000 in
theorem c_Ma_min (l : Launch) (E : zE) (M : zM) (x y : Int64) : zK l sX E y_Ma_min b_Ma_min 4 (some .long) 0 0 [.long x, .long y] M (zPl (fun r M2 => r = (if y < x then y else x) ∧ M = M2)) := by
  refine zK.ofF "java/lang/Math" rfl (by decide +kernel) (Nat.le_of_ble_eq_true rfl) ?_
  intro G hS hE hQ hL C
  subst hE
  subst hL
  show VJ G M 0 [some (.long x), none, some (.long y), none] []
  refine r_lld0 C (pc := 0) d_Ma_min_0 ?_
  refine r_lld2 C (pc := 1) d_Ma_min_1 ?_
  refine r_lcmp_gt C (pc := 2) (tgt := 10) d_Ma_min_2 d_Ma_min_3 (by decide) (fun c2 => ?_) (fun c2 => ?_)
  · refine r_lld2 C (pc := 10) d_Ma_min_10 ?_
    exact r_lret C (pc := 11) hQ (⟨by first | rw [if_pos (by assumption)] | rw [if_neg (by assumption)], rfl⟩) d_Ma_min_11
  · refine r_lld0 C (pc := 6) d_Ma_min_6 ?_
    refine r_goto C (pc := 7) (tgt := 11) d_Ma_min_7 (by decide) ?_
    exact r_lret C (pc := 11) hQ (⟨by first | rw [if_pos (by assumption)] | rw [if_neg (by assumption)], rfl⟩) d_Ma_min_11
set_option maxRecDepth 20000 in
theorem c_Ma_abs (l : Launch) (E : zE) (M : zM) (x : Int64) : zK l sX E y_Ma_abs b_Ma_abs 2 (some .long) 0 0 [.long x] M (zPl (fun r M2 => r = ab x ∧ M = M2)) := by
  refine zK.ofF "java/lang/Math" rfl (by decide +kernel) (Nat.le_of_ble_eq_true rfl) ?_
  intro G hS hE hQ hL C
  subst hE
  subst hL
  show VJ G M 0 [some (.long x), none] []
  refine r_lld0 C (pc := 0) d_Ma_abs_0 ?_
  refine r_lconst C (pc := 1) (v := 0) rfl d_Ma_abs_1 ?_
  refine r_lcmp_ge C (pc := 2) (tgt := 11) d_Ma_abs_2 d_Ma_abs_3 (by decide) (fun c2 => ?_) (fun c2 => ?_)
  · refine r_lld0 C (pc := 11) d_Ma_abs_11 ?_
    exact r_lret C (pc := 12) hQ (⟨by unfold ab; first | rw [if_pos (Int64.not_le.mp (by assumption))] | rw [if_neg (Int64.not_lt.mpr (by assumption))], rfl⟩) d_Ma_abs_12
  · refine r_lld0 C (pc := 6) d_Ma_abs_6 ?_
    refine r_lneg C (pc := 7) rfl d_Ma_abs_7 ?_
    refine r_goto C (pc := 8) (tgt := 12) d_Ma_abs_8 (by decide) ?_
    exact r_lret C (pc := 12) hQ (⟨by unfold ab; first | rw [if_pos (Int64.not_le.mp (by assumption))] | rw [if_neg (Int64.not_lt.mpr (by assumption))], rfl⟩) d_Ma_abs_12
set_option maxRecDepth 20000 in
theorem c_Ma_floorDiv (l : Launch) (E : zE) (M : zM) (x y : Int64) (hy : 0 < y) : zK l sX E y_Ma_floorDiv b_Ma_floorDiv 6 (some .long) 0 0 [.long x, .long y] M (zPl (fun r M2 => r = fdv x y ∧ M = M2)) := by
  refine zK.ofF "java/lang/Math" rfl (by decide +kernel) (Nat.le_of_ble_eq_true rfl) ?_
  intro G hS hE hQ hL C
  subst hE
  subst hL
  show VJ G M 0 [some (.long x), none, some (.long y), none, none, none] []
  refine r_lld0 C (pc := 0) d_Ma_floorDiv_0 ?_
  refine r_lld2 C (pc := 1) d_Ma_floorDiv_1 ?_
  refine r_ldiv C (pc := 2) (fun q => absurd hy (by rw [q]; decide)) d_Ma_floorDiv_2 ?_
  refine r_lst4 C (pc := 3) rfl d_Ma_floorDiv_3 ?_
  refine r_lld0 C (pc := 5) d_Ma_floorDiv_5 ?_
  refine r_lld2 C (pc := 6) d_Ma_floorDiv_6 ?_
  refine r_lxor C (pc := 7) d_Ma_floorDiv_7 ?_
  refine r_lconst C (pc := 8) (v := 0) rfl d_Ma_floorDiv_8 ?_
  refine r_lcmp_ge C (pc := 9) (tgt := 27) d_Ma_floorDiv_9 d_Ma_floorDiv_10 (by decide) (fun c9 => ?_) (fun c9 => ?_)
  · refine r_lld4 C (pc := 27) d_Ma_floorDiv_27 ?_
    exact r_lret C (pc := 29) hQ (⟨by first | exact fdv_0 hy c9 | exact fdv_1 hy c18, rfl⟩) d_Ma_floorDiv_29
  · refine r_lld4 C (pc := 13) d_Ma_floorDiv_13 ?_
    refine r_lld2 C (pc := 15) d_Ma_floorDiv_15 ?_
    refine r_lmul C (pc := 16) d_Ma_floorDiv_16 ?_
    refine r_lld0 C (pc := 17) d_Ma_floorDiv_17 ?_
    refine r_lcmp_eq C (pc := 18) (tgt := 27) d_Ma_floorDiv_18 d_Ma_floorDiv_19 (by decide) (fun c18 => ?_) (fun c18 => ?_)
    · refine r_lld4 C (pc := 27) d_Ma_floorDiv_27 ?_
      exact r_lret C (pc := 29) hQ (⟨by first | exact fdv_0 hy c9 | exact fdv_1 hy c18, rfl⟩) d_Ma_floorDiv_29
    · refine r_lld4 C (pc := 22) d_Ma_floorDiv_22 ?_
      refine r_lconst C (pc := 24) (v := 1) rfl d_Ma_floorDiv_24 ?_
      refine r_lsub C (pc := 25) d_Ma_floorDiv_25 ?_
      exact r_lret C (pc := 26) hQ (⟨fdv_2 hy c9 c18, rfl⟩) d_Ma_floorDiv_26
set_option maxRecDepth 20000 in
theorem c_O_isIn (l : Launch) (E : zE) (M : zM) (m i : Nat) (hm : m < 2147483648) (hi : i < 32) : zK l sX E y_O_isIn b_O_isIn 2 (some .boolean) 0 0 [.int (iI (m : Int)), .int (iI (i : Int))] M (zPi (fun r M2 => r = zb (m.testBit i = true) ∧ M = M2)) := by
  refine zK.of "OldBeams" rfl (by decide) (Nat.le_of_ble_eq_true rfl) ?_
  intro G hS hE hQ hL C
  subst hE
  subst hL
  show VJ G M 0 [some (.int (iI (m : Int))), some (.int (iI (i : Int)))] []
  refine r_ild0 C (pc := 0) d_O_isIn_0 ?_
  refine r_ild1 C (pc := 1) d_O_isIn_1 ?_
  refine r_ishr C (pc := 2) (bi_shr hm hi) d_O_isIn_2 ?_
  refine r_iconst C (pc := 3) d_O_isIn_3 ?_
  refine r_iand C (pc := 4) (bi_and _ 1) d_O_isIn_4 ?_
  have hlt : m / 2 ^ i &&& 1 ≤ 1 := Nat.and_le_right
  have hb1 := bit_1 m i
  refine r_if_eq C (pc := 5) (tgt := 12) (by omega) d_O_isIn_5 (by decide) (fun c5 => ?_) (fun c5 => ?_)
  · refine r_iconst C (pc := 12) d_O_isIn_12 ?_
    exact r_zret C (pc := 13) hQ (by first | exact Or.inl rfl | exact Or.inr rfl | exact zb_01 _ | assumption) (⟨by first | rw [zb_neg (hb1.mp (by omega))] | rw [zb_pos (Classical.byContradiction fun q => c5 (by have := hb1.mpr q; omega))], rfl⟩) d_O_isIn_13
  · refine r_iconst C (pc := 8) d_O_isIn_8 ?_
    refine r_goto C (pc := 9) (tgt := 13) d_O_isIn_9 (by decide) ?_
    exact r_zret C (pc := 13) hQ (by first | exact Or.inl rfl | exact Or.inr rfl | exact zb_01 _ | assumption) (⟨by first | rw [zb_neg (hb1.mp (by omega))] | rw [zb_pos (Classical.byContradiction fun q => c5 (by have := hb1.mpr q; omega))], rfl⟩) d_O_isIn_13
set_option maxRecDepth 20000 in
theorem c_F_restsOn (l : Launch) (E : zE) (M : zM) (n : Int) (m : Nat) (hm : m < 2147483648) (hn : n = -900009 ∨ (0 ≤ n ∧ n < 32)) : zK l sX E y_F_restsOn b_F_restsOn 2 (some .boolean) 1 21 [.int (iI n), .int (iI (m : Int))] M (zPi (fun r M2 => r = zb (n ≠ -900009 ∧ m.testBit n.toNat = true) ∧ M = M2)) := by
  refine zK.of "OldBeams$Frame" rfl (by decide) (Nat.le_of_ble_eq_true rfl) ?_
  intro G hS hE hQ hL C
  subst hE
  subst hL
  show VJ G M 0 [some (.int (iI n)), some (.int (iI (m : Int)))] []
  refine r_ild0 C (pc := 0) d_F_restsOn_0 ?_
  refine r_ldc C (pc := 1) (z := (-900009)) k_296 rfl d_F_restsOn_1 ?_
  refine r_icmp_eq C (pc := 3) (tgt := 18) (by omega) (by omega) d_F_restsOn_3 (by decide) (fun c3 => ?_) (fun c3 => ?_)
  · refine r_iconst C (pc := 18) d_F_restsOn_18 ?_
    exact r_zret C (pc := 19) hQ (by first | exact Or.inl rfl | exact Or.inr rfl | exact zb_01 _ | assumption) (⟨by first | rw [zb_pos ⟨by omega, by rw [Int.toNat_natCast]; assumption⟩] | rw [zb_neg (fun q => c11 (by have := q.2; rwa [Int.toNat_natCast] at this))] | rw [zb_neg (fun q => q.1 c3)], rfl⟩) d_F_restsOn_19
  · refine r_ild1 C (pc := 6) d_F_restsOn_6 ?_
    refine r_ild0 C (pc := 7) d_F_restsOn_7 ?_
    obtain ⟨i, rfl⟩ : ∃ i : Nat, n = (i : Int) := ⟨n.toNat, by omega⟩
    refine calln_O_isIn C (pc := 8) hS rfl rfl (c_O_isIn _ _ _ _ _ (by omega) (by omega)) (by decide) (Nat.le_of_ble_eq_true rfl) rfl d_F_restsOn_8 (kkI (fun r8 N8 h8 => ?_))
    obtain ⟨rfl, rfl⟩ := h8
    refine r_ifeqB C (pc := 11) (tgt := 18) d_F_restsOn_11 (by decide) (fun c11 => ?_) (fun c11 => ?_)
    · refine r_iconst C (pc := 18) d_F_restsOn_18 ?_
      exact r_zret C (pc := 19) hQ (by first | exact Or.inl rfl | exact Or.inr rfl | exact zb_01 _ | assumption) (⟨by first | rw [zb_pos ⟨by omega, by rw [Int.toNat_natCast]; assumption⟩] | rw [zb_neg (fun q => c11 (by have := q.2; rwa [Int.toNat_natCast] at this))] | rw [zb_neg (fun q => q.1 c3)], rfl⟩) d_F_restsOn_19
    · refine r_iconst C (pc := 14) d_F_restsOn_14 ?_
      refine r_goto C (pc := 15) (tgt := 19) d_F_restsOn_15 (by decide) ?_
      exact r_zret C (pc := 19) hQ (by first | exact Or.inl rfl | exact Or.inr rfl | exact zb_01 _ | assumption) (⟨by first | rw [zb_pos ⟨by omega, by rw [Int.toNat_natCast]; assumption⟩] | rw [zb_neg (fun q => c11 (by have := q.2; rwa [Int.toNat_natCast] at this))] | rw [zb_neg (fun q => q.1 c3)], rfl⟩) d_F_restsOn_19
set_option maxRecDepth 20000 in
theorem c_F_propBit (l : Launch) (E : zE) (M : zM) (p : Nat) (hp : p < 8) : zK l sX E y_F_propBit b_F_propBit 1 (some .int) 0 0 [.int (iI (p : Int))] M (zPi (fun r M2 => r = ((2 ^ (7 - p) : Nat) : Int) ∧ M = M2)) := by
  refine zK.of "OldBeams$Frame" rfl (by decide) (Nat.le_of_ble_eq_true rfl) ?_
  intro G hS hE hQ hL C
  subst hE
  subst hL
  show VJ G M 0 [some (.int (iI (p : Int)))] []
  refine r_iconst C (pc := 0) d_F_propBit_0 ?_
  refine r_bipush C (pc := 1) (n := 7) rfl d_F_propBit_1 ?_
  refine r_ild0 C (pc := 3) d_F_propBit_3 ?_
  refine r_isub C (pc := 4) d_F_propBit_4 ?_
  refine r_topZ (b := ((7 - p : Nat) : Int)) (by omega) ?_
  refine r_ishl C (pc := 5) (bi_shl (by omega)) d_F_propBit_5 ?_
  exact r_iret C (pc := 6) hQ (⟨rfl, rfl⟩) d_F_propBit_6
set_option maxRecDepth 20000 in
theorem c_In_bitCount (l : Launch) (E : zE) (M : zM) (n : Nat) (hn : n < 4096) : zK l sX E y_In_bitCount b_In_bitCount 1 (some .int) 0 0 [.int (iI (n : Int))] M (zPi (fun r M2 => r = ((dcnt (fun i => Nat.testBit n i) 12 : Nat) : Int) ∧ M = M2)) := by
  refine zK.ofF "java/lang/Integer" rfl (by decide +kernel) (Nat.le_of_ble_eq_true rfl) ?_
  intro G hS hE hQ hL C
  subst hE
  subst hL
  show VJ G M 0 [some (.int (iI (n : Int)))] []
  refine r_ild0 C (pc := 0) d_In_bitCount_0 ?_
  refine r_ild0 C (pc := 1) d_In_bitCount_1 ?_
  refine r_iconst C (pc := 2) d_In_bitCount_2 ?_
  refine r_iushr C (pc := 3) rfl d_In_bitCount_3 ?_
  refine r_ldcw C (pc := 4) (z := 1431655765) k_329 rfl d_In_bitCount_4 ?_
  refine r_iand C (pc := 7) rfl d_In_bitCount_7 ?_
  refine r_isubR C (pc := 8) rfl d_In_bitCount_8 ?_
  refine r_nami (fun x1 e1 => ?_)
  refine r_ist0 C (pc := 9) d_In_bitCount_9 ?_
  refine r_ild0 C (pc := 10) d_In_bitCount_10 ?_
  refine r_ldcw C (pc := 11) (z := 858993459) k_330 rfl d_In_bitCount_11 ?_
  refine r_iand C (pc := 14) rfl d_In_bitCount_14 ?_
  refine r_ild0 C (pc := 15) d_In_bitCount_15 ?_
  refine r_iconst C (pc := 16) d_In_bitCount_16 ?_
  refine r_iushr C (pc := 17) rfl d_In_bitCount_17 ?_
  refine r_ldcw C (pc := 18) (z := 858993459) k_330 rfl d_In_bitCount_18 ?_
  refine r_iand C (pc := 21) rfl d_In_bitCount_21 ?_
  refine r_iaddR C (pc := 22) rfl d_In_bitCount_22 ?_
  refine r_nami (fun x2 e2 => ?_)
  refine r_ist0 C (pc := 23) d_In_bitCount_23 ?_
  refine r_ild0 C (pc := 24) d_In_bitCount_24 ?_
  refine r_ild0 C (pc := 25) d_In_bitCount_25 ?_
  refine r_iconst C (pc := 26) d_In_bitCount_26 ?_
  refine r_iushr C (pc := 27) rfl d_In_bitCount_27 ?_
  refine r_iaddR C (pc := 28) rfl d_In_bitCount_28 ?_
  refine r_ldcw C (pc := 29) (z := 252645135) k_331 rfl d_In_bitCount_29 ?_
  refine r_iand C (pc := 32) rfl d_In_bitCount_32 ?_
  refine r_nami (fun x3 e3 => ?_)
  refine r_ist0 C (pc := 33) d_In_bitCount_33 ?_
  refine r_ild0 C (pc := 34) d_In_bitCount_34 ?_
  refine r_ild0 C (pc := 35) d_In_bitCount_35 ?_
  refine r_bipush C (pc := 36) (n := 8) rfl d_In_bitCount_36 ?_
  refine r_iushr C (pc := 38) rfl d_In_bitCount_38 ?_
  refine r_iaddR C (pc := 39) rfl d_In_bitCount_39 ?_
  refine r_nami (fun x4 e4 => ?_)
  refine r_ist0 C (pc := 40) d_In_bitCount_40 ?_
  refine r_ild0 C (pc := 41) d_In_bitCount_41 ?_
  refine r_ild0 C (pc := 42) d_In_bitCount_42 ?_
  refine r_bipush C (pc := 43) (n := 16) rfl d_In_bitCount_43 ?_
  refine r_iushr C (pc := 45) rfl d_In_bitCount_45 ?_
  refine r_iaddR C (pc := 46) rfl d_In_bitCount_46 ?_
  refine r_nami (fun x5 e5 => ?_)
  refine r_ist0 C (pc := 47) d_In_bitCount_47 ?_
  refine r_ild0 C (pc := 48) d_In_bitCount_48 ?_
  refine r_bipush C (pc := 49) (n := 63) rfl d_In_bitCount_49 ?_
  refine r_iand C (pc := 51) rfl d_In_bitCount_51 ?_
  refine r_topi (y := iI ((dcnt (fun i => Nat.testBit n i) 12 : Nat) : Int)) (by rw [e5, e4, e3, e2, e1]; exact bc_all n hn) ?_
  exact r_iret C (pc := 52) hQ (⟨rfl, rfl⟩) d_In_bitCount_52
