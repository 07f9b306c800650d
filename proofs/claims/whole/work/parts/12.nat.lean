theorem X_ialdN {G : zG} {cc : ByteArray} {own : String} {ret : Option FieldType} {nL fr lc : Nat} (C : zC G cc own ret nL fr lc) {M : zM} {lo : List (Option Value)} {st : List Value} {pc : Nat} (hS : G.1 = sX) {k n : Nat} {a : Int} (j : Nat) (hj : a = (j : Int)) (hs : shX k = (0, n)) (hk : k < 129) (h1 : j < n) (hn : n < 2147483648) (d : decode cc pc = .ok (.iaload, 1)) (kk : VJ G M (pc + 1) lo (.int (iI (M.1 k j)) :: st)) : VJ G M pc lo (.int (iI a) :: .ref (zad G k) :: st) := by
  subst hj
  exact X_iald C hS hs hk (by omega) (by omega) hn d (by rw [Int.toNat_natCast]; exact kk)
theorem X_baldN {G : zG} {cc : ByteArray} {own : String} {ret : Option FieldType} {nL fr lc : Nat} (C : zC G cc own ret nL fr lc) {M : zM} {lo : List (Option Value)} {st : List Value} {pc : Nat} (hS : G.1 = sX) {k n : Nat} {a : Int} (j : Nat) (hj : a = (j : Int)) (hs : shX k = (1, n)) (hk : k < 129) (h1 : j < n) (hn : n < 2147483648) (d : decode cc pc = .ok (.baload, 1)) (kk : VJ G M (pc + 1) lo (.int (iI (M.1 k j)) :: st)) : VJ G M pc lo (.int (iI a) :: .ref (zad G k) :: st) := by
  subst hj
  exact X_bald C hS hs hk (by omega) (by omega) hn d (by rw [Int.toNat_natCast]; exact kk)
theorem X_laldN {G : zG} {cc : ByteArray} {own : String} {ret : Option FieldType} {nL fr lc : Nat} (C : zC G cc own ret nL fr lc) {M : zM} {lo : List (Option Value)} {st : List Value} {pc : Nat} (hS : G.1 = sX) {k n : Nat} {a : Int} (j : Nat) (hj : a = (j : Int)) (hs : shX k = (2, n)) (hk : k < 129) (h1 : j < n) (hn : n < 2147483648) (d : decode cc pc = .ok (.laload, 1)) (kk : VJ G M (pc + 1) lo (.long (M.2 k j) :: st)) : VJ G M pc lo (.int (iI a) :: .ref (zad G k) :: st) := by
  subst hj
  exact X_lald C hS hs hk (by omega) (by omega) hn d (by rw [Int.toNat_natCast]; exact kk)
theorem X_iastN {G : zG} {cc : ByteArray} {own : String} {ret : Option FieldType} {nL fr lc : Nat} (C : zC G cc own ret nL fr lc) {M : zM} {lo : List (Option Value)} {st : List Value} {pc : Nat} (hS : G.1 = sX) {k n : Nat} {a z : Int} (j : Nat) (hj : a = (j : Int)) (hs : shX k = (0, n)) (hk : k < 129) (h1 : j < n) (hn : n < 2147483648) (d : decode cc pc = .ok (.iastore, 1)) (kk : VJ G (zI M k j z) (pc + 1) lo st) : VJ G M pc lo (.int (iI z) :: .int (iI a) :: .ref (zad G k) :: st) := by
  subst hj
  exact X_iast C hS hs hk (by omega) (by omega) hn d (by rw [Int.toNat_natCast]; exact kk)
theorem X_bastN {G : zG} {cc : ByteArray} {own : String} {ret : Option FieldType} {nL fr lc : Nat} (C : zC G cc own ret nL fr lc) {M : zM} {lo : List (Option Value)} {st : List Value} {pc : Nat} (hS : G.1 = sX) {k n : Nat} {a z : Int} (j : Nat) (hj : a = (j : Int)) (hs : shX k = (1, n)) (hk : k < 129) (h1 : j < n) (hn : n < 2147483648) (h01 : z = 0 ∨ z = 1) (d : decode cc pc = .ok (.bastore, 1)) (kk : VJ G (zI M k j z) (pc + 1) lo st) : VJ G M pc lo (.int (iI z) :: .int (iI a) :: .ref (zad G k) :: st) := by
  subst hj
  exact X_bast C hS hs hk (by omega) (by omega) hn h01 d (by rw [Int.toNat_natCast]; exact kk)
theorem X_lastN {G : zG} {cc : ByteArray} {own : String} {ret : Option FieldType} {nL fr lc : Nat} (C : zC G cc own ret nL fr lc) {M : zM} {lo : List (Option Value)} {st : List Value} {pc : Nat} (hS : G.1 = sX) {k n : Nat} {a : Int} {z : Int64} (j : Nat) (hj : a = (j : Int)) (hs : shX k = (2, n)) (hk : k < 129) (h1 : j < n) (hn : n < 2147483648) (d : decode cc pc = .ok (.lastore, 1)) (kk : VJ G (zJ M k j z) (pc + 1) lo st) : VJ G M pc lo (.long z :: .int (iI a) :: .ref (zad G k) :: st) := by
  subst hj
  exact X_last C hS hs hk (by omega) (by omega) hn d (by rw [Int.toNat_natCast]; exact kk)
theorem M_ialdN {G : zG} {cc : ByteArray} {own : String} {ret : Option FieldType} {nL fr lc : Nat} (C : zC G cc own ret nL fr lc) {M : zM} {lo : List (Option Value)} {st : List Value} {pc : Nat} (hS : G.1 = sM) {k n : Nat} {a : Int} (j : Nat) (hj : a = (j : Int)) (hs : shM k = (0, n)) (hk : k < 36) (h1 : j < n) (hn : n < 2147483648) (d : decode cc pc = .ok (.iaload, 1)) (kk : VJ G M (pc + 1) lo (.int (iI (M.1 k j)) :: st)) : VJ G M pc lo (.int (iI a) :: .ref (zad G k) :: st) := by
  subst hj
  exact M_iald C hS hs hk (by omega) (by omega) hn d (by rw [Int.toNat_natCast]; exact kk)
theorem M_baldN {G : zG} {cc : ByteArray} {own : String} {ret : Option FieldType} {nL fr lc : Nat} (C : zC G cc own ret nL fr lc) {M : zM} {lo : List (Option Value)} {st : List Value} {pc : Nat} (hS : G.1 = sM) {k n : Nat} {a : Int} (j : Nat) (hj : a = (j : Int)) (hs : shM k = (1, n)) (hk : k < 36) (h1 : j < n) (hn : n < 2147483648) (d : decode cc pc = .ok (.baload, 1)) (kk : VJ G M (pc + 1) lo (.int (iI (M.1 k j)) :: st)) : VJ G M pc lo (.int (iI a) :: .ref (zad G k) :: st) := by
  subst hj
  exact M_bald C hS hs hk (by omega) (by omega) hn d (by rw [Int.toNat_natCast]; exact kk)
theorem M_laldN {G : zG} {cc : ByteArray} {own : String} {ret : Option FieldType} {nL fr lc : Nat} (C : zC G cc own ret nL fr lc) {M : zM} {lo : List (Option Value)} {st : List Value} {pc : Nat} (hS : G.1 = sM) {k n : Nat} {a : Int} (j : Nat) (hj : a = (j : Int)) (hs : shM k = (2, n)) (hk : k < 36) (h1 : j < n) (hn : n < 2147483648) (d : decode cc pc = .ok (.laload, 1)) (kk : VJ G M (pc + 1) lo (.long (M.2 k j) :: st)) : VJ G M pc lo (.int (iI a) :: .ref (zad G k) :: st) := by
  subst hj
  exact M_lald C hS hs hk (by omega) (by omega) hn d (by rw [Int.toNat_natCast]; exact kk)
theorem M_iastN {G : zG} {cc : ByteArray} {own : String} {ret : Option FieldType} {nL fr lc : Nat} (C : zC G cc own ret nL fr lc) {M : zM} {lo : List (Option Value)} {st : List Value} {pc : Nat} (hS : G.1 = sM) {k n : Nat} {a z : Int} (j : Nat) (hj : a = (j : Int)) (hs : shM k = (0, n)) (hk : k < 36) (h1 : j < n) (hn : n < 2147483648) (d : decode cc pc = .ok (.iastore, 1)) (kk : VJ G (zI M k j z) (pc + 1) lo st) : VJ G M pc lo (.int (iI z) :: .int (iI a) :: .ref (zad G k) :: st) := by
  subst hj
  exact M_iast C hS hs hk (by omega) (by omega) hn d (by rw [Int.toNat_natCast]; exact kk)
theorem M_bastN {G : zG} {cc : ByteArray} {own : String} {ret : Option FieldType} {nL fr lc : Nat} (C : zC G cc own ret nL fr lc) {M : zM} {lo : List (Option Value)} {st : List Value} {pc : Nat} (hS : G.1 = sM) {k n : Nat} {a z : Int} (j : Nat) (hj : a = (j : Int)) (hs : shM k = (1, n)) (hk : k < 36) (h1 : j < n) (hn : n < 2147483648) (h01 : z = 0 ∨ z = 1) (d : decode cc pc = .ok (.bastore, 1)) (kk : VJ G (zI M k j z) (pc + 1) lo st) : VJ G M pc lo (.int (iI z) :: .int (iI a) :: .ref (zad G k) :: st) := by
  subst hj
  exact M_bast C hS hs hk (by omega) (by omega) hn h01 d (by rw [Int.toNat_natCast]; exact kk)
theorem M_lastN {G : zG} {cc : ByteArray} {own : String} {ret : Option FieldType} {nL fr lc : Nat} (C : zC G cc own ret nL fr lc) {M : zM} {lo : List (Option Value)} {st : List Value} {pc : Nat} (hS : G.1 = sM) {k n : Nat} {a : Int} {z : Int64} (j : Nat) (hj : a = (j : Int)) (hs : shM k = (2, n)) (hk : k < 36) (h1 : j < n) (hn : n < 2147483648) (d : decode cc pc = .ok (.lastore, 1)) (kk : VJ G (zJ M k j z) (pc + 1) lo st) : VJ G M pc lo (.long z :: .int (iI a) :: .ref (zad G k) :: st) := by
  subst hj
  exact M_last C hS hs hk (by omega) (by omega) hn d (by rw [Int.toNat_natCast]; exact kk)
theorem X_kindsN {G : zG} {cc : ByteArray} {own : String} {ret : Option FieldType} {nL fr lc : Nat} (C : zC G cc own ret nL fr lc) {M : zM} {lo : List (Option Value)} {st : List Value} {pc : Nat} (hS : G.1 = sX) {a : Int} (j : Nat) (hj : a = (j : Int)) (h1 : j < 4) (d : decode cc pc = .ok (.aaload, 1)) (kk : VJ G M (pc + 1) lo (.ref (zad G (9 + j)) :: st)) : VJ G M pc lo (.int (iI a) :: .ref (zad G 8) :: st) := by
  subst hj
  exact X_kinds C hS (by omega) (by omega) d (by rw [Int.toNat_natCast]; exact kk)
theorem X_weightsN {G : zG} {cc : ByteArray} {own : String} {ret : Option FieldType} {nL fr lc : Nat} (C : zC G cc own ret nL fr lc) {M : zM} {lo : List (Option Value)} {st : List Value} {pc : Nat} (hS : G.1 = sX) {a : Int} (j : Nat) (hj : a = (j : Int)) (h1 : j < 12) (d : decode cc pc = .ok (.aaload, 1)) (kk : VJ G M (pc + 1) lo (.ref (zad G (22 + j)) :: st)) : VJ G M pc lo (.int (iI a) :: .ref (zad G 21) :: st) := by
  subst hj
  exact X_weights C hS (by omega) (by omega) d (by rw [Int.toNat_natCast]; exact kk)
theorem X_toolsN {G : zG} {cc : ByteArray} {own : String} {ret : Option FieldType} {nL fr lc : Nat} (C : zC G cc own ret nL fr lc) {M : zM} {lo : List (Option Value)} {st : List Value} {pc : Nat} (hS : G.1 = sX) {a : Int} (j : Nat) (hj : a = (j : Int)) (h1 : j < 4) (d : decode cc pc = .ok (.aaload, 1)) (kk : VJ G M (pc + 1) lo (.ref (zad G (35 + j)) :: st)) : VJ G M pc lo (.int (iI a) :: .ref (zad G 34) :: st) := by
  subst hj
  exact X_tools C hS (by omega) (by omega) d (by rw [Int.toNat_natCast]; exact kk)
theorem X_beamsN {G : zG} {cc : ByteArray} {own : String} {ret : Option FieldType} {nL fr lc : Nat} (C : zC G cc own ret nL fr lc) {M : zM} {lo : List (Option Value)} {st : List Value} {pc : Nat} (hS : G.1 = sX) {a : Int} (j : Nat) (hj : a = (j : Int)) (h1 : j < 12) (d : decode cc pc = .ok (.aaload, 1)) (kk : VJ G M (pc + 1) lo (.ref (zad G (45 + 7 * j)) :: st)) : VJ G M pc lo (.int (iI a) :: .ref (zad G 13) :: st) := by
  subst hj
  exact X_beams C hS (by omega) (by omega) d (by rw [Int.toNat_natCast]; exact kk)
