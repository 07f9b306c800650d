section
-- ===== PART A: goes FIRST, ahead of the names: the tables' words, and 'selects' of the private methods out of them =====
/-- a private method of a class that the tables say can be made, by its rows of tables_1 -/
def lw_okq (q : MethodName × Nat) : Prop := (q.1.cls ≠ "java/lang/invoke/MethodHandle" ∧ q.1.cls ≠ "java/lang/invoke/VarHandle") ∧ Cond.instantiable q.1.cls q.2 ∈ tables_1 ∧ Cond.privateMethod q.1 ∈ tables_1 ∧ Cond.instanceMethod q.1 ∈ tables_1
theorem lw_p0 : lw_okq (⟨"OldBeams", "refusal", "(IZ)I"⟩, 7) := ⟨⟨by decide +kernel, by decide +kernel⟩, List.mem_of_getElem? (i := 11) (by decide +kernel), List.mem_of_getElem? (i := 337) (by decide +kernel), List.mem_of_getElem? (i := 338) (by decide +kernel)⟩
theorem lw_p1 : lw_okq (⟨"OldBeams$Frame", "reckonAll", "(II)V"⟩, 15) := ⟨⟨by decide +kernel, by decide +kernel⟩, List.mem_of_getElem? (i := 19) (by decide +kernel), List.mem_of_getElem? (i := 345) (by decide +kernel), List.mem_of_getElem? (i := 346) (by decide +kernel)⟩
theorem lw_p2 : lw_okq (⟨"OldBeams$Frame", "spreadForces", "(I)V"⟩, 15) := ⟨⟨by decide +kernel, by decide +kernel⟩, List.mem_of_getElem? (i := 19) (by decide +kernel), List.mem_of_getElem? (i := 349) (by decide +kernel), List.mem_of_getElem? (i := 350) (by decide +kernel)⟩
theorem lw_p3 : lw_okq (⟨"OldBeams$Frame", "reckonBeam", "(LOldBeams$Beam;)V"⟩, 15) := ⟨⟨by decide +kernel, by decide +kernel⟩, List.mem_of_getElem? (i := 19) (by decide +kernel), List.mem_of_getElem? (i := 363) (by decide +kernel), List.mem_of_getElem? (i := 364) (by decide +kernel)⟩
theorem lw_p4 : lw_okq (⟨"OldBeams$Looks", "applyLook", "(II)Z"⟩, 9) := ⟨⟨by decide +kernel, by decide +kernel⟩, List.mem_of_getElem? (i := 150) (by decide +kernel), List.mem_of_getElem? (i := 461) (by decide +kernel), List.mem_of_getElem? (i := 462) (by decide +kernel)⟩
theorem lw_p5 : lw_okq (⟨"OldBeams", "takeShares", "(IZ)V"⟩, 7) := ⟨⟨by decide +kernel, by decide +kernel⟩, List.mem_of_getElem? (i := 11) (by decide +kernel), List.mem_of_getElem? (i := 495) (by decide +kernel), List.mem_of_getElem? (i := 496) (by decide +kernel)⟩
theorem lw_p6 : lw_okq (⟨"OldBeams", "standsAfter", "(I)Z"⟩, 7) := ⟨⟨by decide +kernel, by decide +kernel⟩, List.mem_of_getElem? (i := 11) (by decide +kernel), List.mem_of_getElem? (i := 499) (by decide +kernel), List.mem_of_getElem? (i := 500) (by decide +kernel)⟩
theorem lw_p7 : lw_okq (⟨"OldBeams", "putChance", "(I)V"⟩, 7) := ⟨⟨by decide +kernel, by decide +kernel⟩, List.mem_of_getElem? (i := 11) (by decide +kernel), List.mem_of_getElem? (i := 511) (by decide +kernel), List.mem_of_getElem? (i := 512) (by decide +kernel)⟩
theorem lw_p8 : lw_okq (⟨"OldBeams", "lostOdds", "(I)J"⟩, 7) := ⟨⟨by decide +kernel, by decide +kernel⟩, List.mem_of_getElem? (i := 11) (by decide +kernel), List.mem_of_getElem? (i := 519) (by decide +kernel), List.mem_of_getElem? (i := 520) (by decide +kernel)⟩
theorem lw_p9 : lw_okq (⟨"OldBeams$Frame", "firstNotHolding", "(I[I)I"⟩, 15) := ⟨⟨by decide +kernel, by decide +kernel⟩, List.mem_of_getElem? (i := 19) (by decide +kernel), List.mem_of_getElem? (i := 552) (by decide +kernel), List.mem_of_getElem? (i := 553) (by decide +kernel)⟩
theorem lw_p10 : lw_okq (⟨"OldBeams$Frame", "standsWith", "(I[I)Z"⟩, 15) := ⟨⟨by decide +kernel, by decide +kernel⟩, List.mem_of_getElem? (i := 19) (by decide +kernel), List.mem_of_getElem? (i := 583) (by decide +kernel), List.mem_of_getElem? (i := 584) (by decide +kernel)⟩
theorem lw_p11 : lw_okq (⟨"OldBeams", "putMean", "(I)V"⟩, 7) := ⟨⟨by decide +kernel, by decide +kernel⟩, List.mem_of_getElem? (i := 11) (by decide +kernel), List.mem_of_getElem? (i := 599) (by decide +kernel), List.mem_of_getElem? (i := 600) (by decide +kernel)⟩
theorem lw_p12 : lw_okq (⟨"OldBeams", "cost", "(JJ)J"⟩, 7) := ⟨⟨by decide +kernel, by decide +kernel⟩, List.mem_of_getElem? (i := 11) (by decide +kernel), List.mem_of_getElem? (i := 603) (by decide +kernel), List.mem_of_getElem? (i := 604) (by decide +kernel)⟩
theorem lw_p13 : lw_okq (⟨"OldBeams", "putWorth", "(II)V"⟩, 7) := ⟨⟨by decide +kernel, by decide +kernel⟩, List.mem_of_getElem? (i := 11) (by decide +kernel), List.mem_of_getElem? (i := 614) (by decide +kernel), List.mem_of_getElem? (i := 615) (by decide +kernel)⟩
theorem lw_p14 : lw_okq (⟨"OldBeamsModel", "isBeam", "(I)Z"⟩, 45) := ⟨⟨by decide +kernel, by decide +kernel⟩, List.mem_of_getElem? (i := 631) (by decide +kernel), List.mem_of_getElem? (i := 802) (by decide +kernel), List.mem_of_getElem? (i := 803) (by decide +kernel)⟩
theorem lw_p15 : lw_okq (⟨"OldBeamsModel", "layNow", "()V"⟩, 45) := ⟨⟨by decide +kernel, by decide +kernel⟩, List.mem_of_getElem? (i := 631) (by decide +kernel), List.mem_of_getElem? (i := 811) (by decide +kernel), List.mem_of_getElem? (i := 812) (by decide +kernel)⟩
def lw_privs_1 : List (MethodName × Nat) := [(⟨"OldBeams", "refusal", "(IZ)I"⟩, 7), (⟨"OldBeams$Frame", "reckonAll", "(II)V"⟩, 15), (⟨"OldBeams$Frame", "spreadForces", "(I)V"⟩, 15), (⟨"OldBeams$Frame", "reckonBeam", "(LOldBeams$Beam;)V"⟩, 15), (⟨"OldBeams$Looks", "applyLook", "(II)Z"⟩, 9), (⟨"OldBeams", "takeShares", "(IZ)V"⟩, 7), (⟨"OldBeams", "standsAfter", "(I)Z"⟩, 7), (⟨"OldBeams", "putChance", "(I)V"⟩, 7), (⟨"OldBeams", "lostOdds", "(I)J"⟩, 7), (⟨"OldBeams$Frame", "firstNotHolding", "(I[I)I"⟩, 15), (⟨"OldBeams$Frame", "standsWith", "(I[I)Z"⟩, 15), (⟨"OldBeams", "putMean", "(I)V"⟩, 7), (⟨"OldBeams", "cost", "(JJ)J"⟩, 7), (⟨"OldBeams", "putWorth", "(II)V"⟩, 7), (⟨"OldBeamsModel", "isBeam", "(I)Z"⟩, 45), (⟨"OldBeamsModel", "layNow", "()V"⟩, 45)]
theorem lw_r1 : ∀ q ∈ lw_privs_1, lw_okq q := List.forall_mem_cons.mpr ⟨lw_p0, List.forall_mem_cons.mpr ⟨lw_p1, List.forall_mem_cons.mpr ⟨lw_p2, List.forall_mem_cons.mpr ⟨lw_p3, List.forall_mem_cons.mpr ⟨lw_p4, List.forall_mem_cons.mpr ⟨lw_p5, List.forall_mem_cons.mpr ⟨lw_p6, List.forall_mem_cons.mpr ⟨lw_p7, List.forall_mem_cons.mpr ⟨lw_p8, List.forall_mem_cons.mpr ⟨lw_p9, List.forall_mem_cons.mpr ⟨lw_p10, List.forall_mem_cons.mpr ⟨lw_p11, List.forall_mem_cons.mpr ⟨lw_p12, List.forall_mem_cons.mpr ⟨lw_p13, List.forall_mem_cons.mpr ⟨lw_p14, List.forall_mem_cons.mpr ⟨lw_p15, fun _ h => absurd h List.not_mem_nil⟩⟩⟩⟩⟩⟩⟩⟩⟩⟩⟩⟩⟩⟩⟩⟩
theorem lw_p16 : lw_okq (⟨"OldBeamsModel", "tryNow", "()V"⟩, 45) := ⟨⟨by decide +kernel, by decide +kernel⟩, List.mem_of_getElem? (i := 631) (by decide +kernel), List.mem_of_getElem? (i := 815) (by decide +kernel), List.mem_of_getElem? (i := 816) (by decide +kernel)⟩
theorem lw_p17 : lw_okq (⟨"OldBeamsModel", "layTried", "()V"⟩, 45) := ⟨⟨by decide +kernel, by decide +kernel⟩, List.mem_of_getElem? (i := 631) (by decide +kernel), List.mem_of_getElem? (i := 819) (by decide +kernel), List.mem_of_getElem? (i := 820) (by decide +kernel)⟩
theorem lw_p18 : lw_okq (⟨"OldBeamsModel", "layDown", "()V"⟩, 45) := ⟨⟨by decide +kernel, by decide +kernel⟩, List.mem_of_getElem? (i := 631) (by decide +kernel), List.mem_of_getElem? (i := 823) (by decide +kernel), List.mem_of_getElem? (i := 824) (by decide +kernel)⟩
theorem lw_p19 : lw_okq (⟨"OldBeamsModel", "layPush", "(I)V"⟩, 45) := ⟨⟨by decide +kernel, by decide +kernel⟩, List.mem_of_getElem? (i := 631) (by decide +kernel), List.mem_of_getElem? (i := 827) (by decide +kernel), List.mem_of_getElem? (i := 828) (by decide +kernel)⟩
theorem lw_p20 : lw_okq (⟨"OldBeamsModel", "layGreat", "(I)V"⟩, 45) := ⟨⟨by decide +kernel, by decide +kernel⟩, List.mem_of_getElem? (i := 631) (by decide +kernel), List.mem_of_getElem? (i := 834) (by decide +kernel), List.mem_of_getElem? (i := 835) (by decide +kernel)⟩
theorem lw_p21 : lw_okq (⟨"OldBeamsModel", "bendingOf", "(II)J"⟩, 45) := ⟨⟨by decide +kernel, by decide +kernel⟩, List.mem_of_getElem? (i := 631) (by decide +kernel), List.mem_of_getElem? (i := 838) (by decide +kernel), List.mem_of_getElem? (i := 839) (by decide +kernel)⟩
theorem lw_p22 : lw_okq (⟨"OldBeamsModel", "whole", "(I)I"⟩, 45) := ⟨⟨by decide +kernel, by decide +kernel⟩, List.mem_of_getElem? (i := 631) (by decide +kernel), List.mem_of_getElem? (i := 842) (by decide +kernel), List.mem_of_getElem? (i := 843) (by decide +kernel)⟩
theorem lw_p23 : lw_okq (⟨"OldBeamsModel", "downMany", "()I"⟩, 45) := ⟨⟨by decide +kernel, by decide +kernel⟩, List.mem_of_getElem? (i := 631) (by decide +kernel), List.mem_of_getElem? (i := 871) (by decide +kernel), List.mem_of_getElem? (i := 872) (by decide +kernel)⟩
theorem lw_p24 : lw_okq (⟨"OldBeamsModel", "mayTell", "(IZ)I"⟩, 45) := ⟨⟨by decide +kernel, by decide +kernel⟩, List.mem_of_getElem? (i := 631) (by decide +kernel), List.mem_of_getElem? (i := 879) (by decide +kernel), List.mem_of_getElem? (i := 880) (by decide +kernel)⟩
theorem lw_p25 : lw_okq (⟨"OldBeamsModel", "isLifting", "(I)Z"⟩, 45) := ⟨⟨by decide +kernel, by decide +kernel⟩, List.mem_of_getElem? (i := 631) (by decide +kernel), List.mem_of_getElem? (i := 895) (by decide +kernel), List.mem_of_getElem? (i := 896) (by decide +kernel)⟩
theorem lw_p26 : lw_okq (⟨"OldBeamsModel", "isHolding", "(II)Z"⟩, 45) := ⟨⟨by decide +kernel, by decide +kernel⟩, List.mem_of_getElem? (i := 631) (by decide +kernel), List.mem_of_getElem? (i := 903) (by decide +kernel), List.mem_of_getElem? (i := 904) (by decide +kernel)⟩
theorem lw_p27 : lw_okq (⟨"OldBeamsModel", "looksAt", "(I)I"⟩, 45) := ⟨⟨by decide +kernel, by decide +kernel⟩, List.mem_of_getElem? (i := 631) (by decide +kernel), List.mem_of_getElem? (i := 916) (by decide +kernel), List.mem_of_getElem? (i := 917) (by decide +kernel)⟩
theorem lw_p28 : lw_okq (⟨"OldBeamsModel", "layOdds", "(II)V"⟩, 45) := ⟨⟨by decide +kernel, by decide +kernel⟩, List.mem_of_getElem? (i := 631) (by decide +kernel), List.mem_of_getElem? (i := 935) (by decide +kernel), List.mem_of_getElem? (i := 936) (by decide +kernel)⟩
theorem lw_p29 : lw_okq (⟨"OldBeamsModel", "takeLook", "(I)V"⟩, 45) := ⟨⟨by decide +kernel, by decide +kernel⟩, List.mem_of_getElem? (i := 631) (by decide +kernel), List.mem_of_getElem? (i := 939) (by decide +kernel), List.mem_of_getElem? (i := 940) (by decide +kernel)⟩
theorem lw_p30 : lw_okq (⟨"OldBeamsModel", "comes", "(III)I"⟩, 45) := ⟨⟨by decide +kernel, by decide +kernel⟩, List.mem_of_getElem? (i := 631) (by decide +kernel), List.mem_of_getElem? (i := 943) (by decide +kernel), List.mem_of_getElem? (i := 944) (by decide +kernel)⟩
theorem lw_p31 : lw_okq (⟨"OldBeamsModel", "shareOf", "(IIIZ)I"⟩, 45) := ⟨⟨by decide +kernel, by decide +kernel⟩, List.mem_of_getElem? (i := 631) (by decide +kernel), List.mem_of_getElem? (i := 961) (by decide +kernel), List.mem_of_getElem? (i := 962) (by decide +kernel)⟩
def lw_privs_2 : List (MethodName × Nat) := [(⟨"OldBeamsModel", "tryNow", "()V"⟩, 45), (⟨"OldBeamsModel", "layTried", "()V"⟩, 45), (⟨"OldBeamsModel", "layDown", "()V"⟩, 45), (⟨"OldBeamsModel", "layPush", "(I)V"⟩, 45), (⟨"OldBeamsModel", "layGreat", "(I)V"⟩, 45), (⟨"OldBeamsModel", "bendingOf", "(II)J"⟩, 45), (⟨"OldBeamsModel", "whole", "(I)I"⟩, 45), (⟨"OldBeamsModel", "downMany", "()I"⟩, 45), (⟨"OldBeamsModel", "mayTell", "(IZ)I"⟩, 45), (⟨"OldBeamsModel", "isLifting", "(I)Z"⟩, 45), (⟨"OldBeamsModel", "isHolding", "(II)Z"⟩, 45), (⟨"OldBeamsModel", "looksAt", "(I)I"⟩, 45), (⟨"OldBeamsModel", "layOdds", "(II)V"⟩, 45), (⟨"OldBeamsModel", "takeLook", "(I)V"⟩, 45), (⟨"OldBeamsModel", "comes", "(III)I"⟩, 45), (⟨"OldBeamsModel", "shareOf", "(IIIZ)I"⟩, 45)]
theorem lw_r2 : ∀ q ∈ lw_privs_2, lw_okq q := List.forall_mem_cons.mpr ⟨lw_p16, List.forall_mem_cons.mpr ⟨lw_p17, List.forall_mem_cons.mpr ⟨lw_p18, List.forall_mem_cons.mpr ⟨lw_p19, List.forall_mem_cons.mpr ⟨lw_p20, List.forall_mem_cons.mpr ⟨lw_p21, List.forall_mem_cons.mpr ⟨lw_p22, List.forall_mem_cons.mpr ⟨lw_p23, List.forall_mem_cons.mpr ⟨lw_p24, List.forall_mem_cons.mpr ⟨lw_p25, List.forall_mem_cons.mpr ⟨lw_p26, List.forall_mem_cons.mpr ⟨lw_p27, List.forall_mem_cons.mpr ⟨lw_p28, List.forall_mem_cons.mpr ⟨lw_p29, List.forall_mem_cons.mpr ⟨lw_p30, List.forall_mem_cons.mpr ⟨lw_p31, fun _ h => absurd h List.not_mem_nil⟩⟩⟩⟩⟩⟩⟩⟩⟩⟩⟩⟩⟩⟩⟩⟩
theorem lw_p32 : lw_okq (⟨"OldBeamsModel", "isStanding", "(IIZ)Z"⟩, 45) := ⟨⟨by decide +kernel, by decide +kernel⟩, List.mem_of_getElem? (i := 631) (by decide +kernel), List.mem_of_getElem? (i := 969) (by decide +kernel), List.mem_of_getElem? (i := 970) (by decide +kernel)⟩
theorem lw_p33 : lw_okq (⟨"OldBeamsModel", "layChance", "(II)V"⟩, 45) := ⟨⟨by decide +kernel, by decide +kernel⟩, List.mem_of_getElem? (i := 631) (by decide +kernel), List.mem_of_getElem? (i := 981) (by decide +kernel), List.mem_of_getElem? (i := 982) (by decide +kernel)⟩
theorem lw_p34 : lw_okq (⟨"OldBeamsModel", "layFall", "(II)V"⟩, 45) := ⟨⟨by decide +kernel, by decide +kernel⟩, List.mem_of_getElem? (i := 631) (by decide +kernel), List.mem_of_getElem? (i := 999) (by decide +kernel), List.mem_of_getElem? (i := 1000) (by decide +kernel)⟩
theorem lw_p35 : lw_okq (⟨"OldBeamsModel", "firstFalling", "(I)I"⟩, 45) := ⟨⟨by decide +kernel, by decide +kernel⟩, List.mem_of_getElem? (i := 631) (by decide +kernel), List.mem_of_getElem? (i := 1003) (by decide +kernel), List.mem_of_getElem? (i := 1004) (by decide +kernel)⟩
theorem lw_p36 : lw_okq (⟨"OldBeamsModel", "bestProps", "(I)I"⟩, 45) := ⟨⟨by decide +kernel, by decide +kernel⟩, List.mem_of_getElem? (i := 631) (by decide +kernel), List.mem_of_getElem? (i := 1015) (by decide +kernel), List.mem_of_getElem? (i := 1016) (by decide +kernel)⟩
theorem lw_p37 : lw_okq (⟨"OldBeamsModel", "least", "(JJ)J"⟩, 45) := ⟨⟨by decide +kernel, by decide +kernel⟩, List.mem_of_getElem? (i := 631) (by decide +kernel), List.mem_of_getElem? (i := 1037) (by decide +kernel), List.mem_of_getElem? (i := 1038) (by decide +kernel)⟩
theorem lw_p38 : lw_okq (⟨"OldBeamsModel", "worthOf", "(II)J"⟩, 45) := ⟨⟨by decide +kernel, by decide +kernel⟩, List.mem_of_getElem? (i := 631) (by decide +kernel), List.mem_of_getElem? (i := 1045) (by decide +kernel), List.mem_of_getElem? (i := 1046) (by decide +kernel)⟩
def lw_privs_3 : List (MethodName × Nat) := [(⟨"OldBeamsModel", "isStanding", "(IIZ)Z"⟩, 45), (⟨"OldBeamsModel", "layChance", "(II)V"⟩, 45), (⟨"OldBeamsModel", "layFall", "(II)V"⟩, 45), (⟨"OldBeamsModel", "firstFalling", "(I)I"⟩, 45), (⟨"OldBeamsModel", "bestProps", "(I)I"⟩, 45), (⟨"OldBeamsModel", "least", "(JJ)J"⟩, 45), (⟨"OldBeamsModel", "worthOf", "(II)J"⟩, 45)]
theorem lw_r3 : ∀ q ∈ lw_privs_3, lw_okq q := List.forall_mem_cons.mpr ⟨lw_p32, List.forall_mem_cons.mpr ⟨lw_p33, List.forall_mem_cons.mpr ⟨lw_p34, List.forall_mem_cons.mpr ⟨lw_p35, List.forall_mem_cons.mpr ⟨lw_p36, List.forall_mem_cons.mpr ⟨lw_p37, List.forall_mem_cons.mpr ⟨lw_p38, fun _ h => absurd h List.not_mem_nil⟩⟩⟩⟩⟩⟩⟩
def lw_privs : List (MethodName × Nat) := lw_privs_1 ++ (lw_privs_2 ++ (lw_privs_3))
def lw_tbl : List Cond := k2_sels lw_privs ++ tables_1
theorem lw_privs_ok : ∀ q ∈ lw_privs, lw_okq q := by
  show ∀ q ∈ lw_privs_1 ++ (lw_privs_2 ++ (lw_privs_3)), lw_okq q
  exact List.forall_mem_append.mpr ⟨lw_r1, List.forall_mem_append.mpr ⟨lw_r2, lw_r3⟩⟩
end
section
def RX_O : String := "OldBeams"
def TX_O : u_T := fun k => ([("OldBeams", "frame", "LOldBeams$Frame;", true), ("OldBeams", "looks", "LOldBeams$Looks;", true), ("OldBeams", "fraction", "LOldBeams$Fraction;", true), ("OldBeams", "best", "LOldBeams$Fraction;", true), ("OldBeams", "prices", "[I", true), ("OldBeams", "shares", "[I", true), ("OldBeams", "fallOrder", "[I", true)] : List (String × String × String × Bool)).getD k ("", "", "", false)
def ty_O : Nat → FieldType := fun k => ([(.object "OldBeams$Frame"), (.object "OldBeams$Looks"), (.object "OldBeams$Fraction"), (.object "OldBeams$Fraction"), (.array .int), (.array .int), (.array .int)] : List FieldType).getD k .int
theorem nm_O : ∀ a, a < 7 → ∀ b, b < 7 → a ≠ b → (TX_O a).2.1 ≠ (TX_O b).2.1 := by decide +kernel
theorem tyok_O : ∀ k, k < 7 → parseFieldDescriptor (TX_O k).2.2.1 = some (ty_O k) := by decide +kernel
theorem lay_O : ∀ w ∈ u_ws RX_O TX_O 7, w ∈ lw_tbl.filter goodWord := by decide +kernel
def RX_F : String := "OldBeams$Frame"
def TX_F : u_T := fun k => ([("OldBeams$Frame", "kinds", "[[I", true), ("OldBeams$Frame", "beams", "[LOldBeams$Beam;", true), ("OldBeams$Frame", "beamCount", "I", false), ("OldBeams$Frame", "fallen", "I", false), ("OldBeams$Frame", "loadBeam", "[I", true), ("OldBeams$Frame", "loadPlace", "[I", true), ("OldBeams$Frame", "loadWeight", "[I", true), ("OldBeams$Frame", "loadIsOn", "[Z", true), ("OldBeams$Frame", "loadCount", "I", false), ("OldBeams$Frame", "propBeam", "[I", true), ("OldBeams$Frame", "propPlace", "[I", true), ("OldBeams$Frame", "propPush", "[I", true), ("OldBeams$Frame", "propCount", "I", false), ("OldBeams$Frame", "setProps", "I", false), ("OldBeams$Frame", "triedDown", "I", false)] : List (String × String × String × Bool)).getD k ("", "", "", false)
def ty_F : Nat → FieldType := fun k => ([(.array (.array .int)), (.array (.object "OldBeams$Beam")), .int, .int, (.array .int), (.array .int), (.array .int), (.array .boolean), .int, (.array .int), (.array .int), (.array .int), .int, .int, .int] : List FieldType).getD k .int
theorem nm_F : ∀ a, a < 15 → ∀ b, b < 15 → a ≠ b → (TX_F a).2.1 ≠ (TX_F b).2.1 := by decide +kernel
theorem tyok_F : ∀ k, k < 15 → parseFieldDescriptor (TX_F k).2.2.1 = some (ty_F k) := by decide +kernel
theorem lay_F : ∀ w ∈ u_ws RX_F TX_F 15, w ∈ lw_tbl.filter goodWord := by decide +kernel
def RX_K : String := "OldBeams$Looks"
def TX_K : u_T := fun k => ([("OldBeams$Looks", "weights", "[[I", true), ("OldBeams$Looks", "tools", "[[I", true), ("OldBeams$Looks", "lookBeam", "[I", true), ("OldBeams$Looks", "lookTool", "[I", true), ("OldBeams$Looks", "lookOutcome", "[I", true), ("OldBeams$Looks", "lookYear", "[I", true), ("OldBeams$Looks", "lookCount", "I", false), ("OldBeams$Looks", "known", "[J", true), ("OldBeams$Looks", "next", "[J", true)] : List (String × String × String × Bool)).getD k ("", "", "", false)
def ty_K : Nat → FieldType := fun k => ([(.array (.array .int)), (.array (.array .int)), (.array .int), (.array .int), (.array .int), (.array .int), .int, (.array .long), (.array .long)] : List FieldType).getD k .int
theorem nm_K : ∀ a, a < 9 → ∀ b, b < 9 → a ≠ b → (TX_K a).2.1 ≠ (TX_K b).2.1 := by decide +kernel
theorem tyok_K : ∀ k, k < 9 → parseFieldDescriptor (TX_K k).2.2.1 = some (ty_K k) := by decide +kernel
theorem lay_K : ∀ w ∈ u_ws RX_K TX_K 9, w ∈ lw_tbl.filter goodWord := by decide +kernel
def RX_Q : String := "OldBeams$Fraction"
def TX_Q : u_T := fun k => ([("OldBeams$Fraction", "above", "J", false), ("OldBeams$Fraction", "below", "J", false)] : List (String × String × String × Bool)).getD k ("", "", "", false)
def ty_Q : Nat → FieldType := fun k => ([.long, .long] : List FieldType).getD k .int
theorem nm_Q : ∀ a, a < 2 → ∀ b, b < 2 → a ≠ b → (TX_Q a).2.1 ≠ (TX_Q b).2.1 := by decide +kernel
theorem tyok_Q : ∀ k, k < 2 → parseFieldDescriptor (TX_Q k).2.2.1 = some (ty_Q k) := by decide +kernel
theorem lay_Q : ∀ w ∈ u_ws RX_Q TX_Q 2, w ∈ lw_tbl.filter goodWord := by decide +kernel
def RX_B : String := "OldBeams$Beam"
def TX_B : u_T := fun k => ([("OldBeams$Beam", "kind", "I", false), ("OldBeams$Beam", "length", "I", false), ("OldBeams$Beam", "width", "I", false), ("OldBeams$Beam", "height", "I", false), ("OldBeams$Beam", "isWet", "Z", false), ("OldBeams$Beam", "place", "[I", true), ("OldBeams$Beam", "on", "[I", true), ("OldBeams$Beam", "where", "[I", true), ("OldBeams$Beam", "loaded", "[J", true), ("OldBeams$Beam", "forces", "[J", true), ("OldBeams$Beam", "push", "[J", true), ("OldBeams$Beam", "greatestBending", "J", false), ("OldBeams$Beam", "greatestPlace", "I", false)] : List (String × String × String × Bool)).getD k ("", "", "", false)
def ty_B : Nat → FieldType := fun k => ([.int, .int, .int, .int, .boolean, (.array .int), (.array .int), (.array .int), (.array .long), (.array .long), (.array .long), .long, .int] : List FieldType).getD k .int
theorem nm_B : ∀ a, a < 13 → ∀ b, b < 13 → a ≠ b → (TX_B a).2.1 ≠ (TX_B b).2.1 := by decide +kernel
theorem tyok_B : ∀ k, k < 13 → parseFieldDescriptor (TX_B k).2.2.1 = some (ty_B k) := by decide +kernel
theorem lay_B : ∀ w ∈ u_ws RX_B TX_B 13, w ∈ lw_tbl.filter goodWord := by decide +kernel
def RX_M : String := "OldBeamsModel"
def TX_M : u_T := fun k => ([("OldBeamsModel", "grade", "[I", true), ("OldBeamsModel", "rot", "[I", true), ("OldBeamsModel", "beams", "I", false), ("OldBeamsModel", "kind", "[I", true), ("OldBeamsModel", "length", "[I", true), ("OldBeamsModel", "width", "[I", true), ("OldBeamsModel", "height", "[I", true), ("OldBeamsModel", "isWet", "[Z", true), ("OldBeamsModel", "hasFallen", "[Z", true), ("OldBeamsModel", "seatAt", "[I", true), ("OldBeamsModel", "seatOn", "[I", true), ("OldBeamsModel", "seatWhere", "[I", true), ("OldBeamsModel", "loads", "I", false), ("OldBeamsModel", "loadBeam", "[I", true), ("OldBeamsModel", "loadPlace", "[I", true), ("OldBeamsModel", "loadWeight", "[I", true), ("OldBeamsModel", "isOff", "[Z", true), ("OldBeamsModel", "props", "I", false), ("OldBeamsModel", "propBeam", "[I", true), ("OldBeamsModel", "propPlace", "[I", true), ("OldBeamsModel", "propPush", "[I", true), ("OldBeamsModel", "isSet", "[Z", true), ("OldBeamsModel", "tryFallen", "[Z", true), ("OldBeamsModel", "trySet", "[Z", true), ("OldBeamsModel", "isDown", "[Z", true), ("OldBeamsModel", "forces", "[J", true), ("OldBeamsModel", "push", "[J", true), ("OldBeamsModel", "great", "[J", true), ("OldBeamsModel", "greatPlace", "[I", true), ("OldBeamsModel", "weight", "[I", true), ("OldBeamsModel", "often", "[I", true), ("OldBeamsModel", "looks", "I", false), ("OldBeamsModel", "lookBeam", "[I", true), ("OldBeamsModel", "lookTool", "[I", true), ("OldBeamsModel", "lookOutcome", "[I", true), ("OldBeamsModel", "lookYear", "[I", true), ("OldBeamsModel", "odds", "[J", true), ("OldBeamsModel", "next", "[J", true), ("OldBeamsModel", "firstQuarrel", "I", false), ("OldBeamsModel", "holdSum", "J", false), ("OldBeamsModel", "allSum", "J", false), ("OldBeamsModel", "fallen", "[I", true), ("OldBeamsModel", "fallMany", "I", false), ("OldBeamsModel", "mend", "I", false), ("OldBeamsModel", "loss", "I", false)] : List (String × String × String × Bool)).getD k ("", "", "", false)
def ty_M : Nat → FieldType := fun k => ([(.array .int), (.array .int), .int, (.array .int), (.array .int), (.array .int), (.array .int), (.array .boolean), (.array .boolean), (.array .int), (.array .int), (.array .int), .int, (.array .int), (.array .int), (.array .int), (.array .boolean), .int, (.array .int), (.array .int), (.array .int), (.array .boolean), (.array .boolean), (.array .boolean), (.array .boolean), (.array .long), (.array .long), (.array .long), (.array .int), (.array .int), (.array .int), .int, (.array .int), (.array .int), (.array .int), (.array .int), (.array .long), (.array .long), .int, .long, .long, (.array .int), .int, .int, .int] : List FieldType).getD k .int
theorem nm_M : ∀ a, a < 45 → ∀ b, b < 45 → a ≠ b → (TX_M a).2.1 ≠ (TX_M b).2.1 := by decide +kernel
theorem tyok_M : ∀ k, k < 45 → parseFieldDescriptor (TX_M k).2.2.1 = some (ty_M k) := by decide +kernel
theorem lay_M : ∀ w ∈ u_ws RX_M TX_M 45, w ∈ lw_tbl.filter goodWord := by decide +kernel
end
section
/-! the picture of a side's memory: cells by number, ints as Int, longs as Int64 -/
def iI (z : Int) : Int32 := Int32.ofInt z
def lI (z : Int) : Int64 := Int64.ofInt z
def zb (P : Prop) [Decidable P] : Int := if P then 1 else 0
abbrev zM : Type := (Nat → Nat → Int) × (Nat → Nat → Int64)
def zI (M : zM) (k i : Nat) (z : Int) : zM := (fun a b => if a = k ∧ b = i then z else M.1 a b, M.2)
def zJ (M : zM) (k i : Nat) (x : Int64) : zM := (M.1, fun a b => if a = k ∧ b = i then x else M.2 a b)
abbrev zE : Type := va_G × (Nat → ClassId) × (Nat → Nat)
/-- a side: how many cells; each one's shape (0 ints, 1 booleans, 2 longs, 3 beams, 4 rows of ints, with a length; 5 and more: an object); an object's fields (0 an int, 2 a long, 6 a cell of that number); what arrays of references hold -/
abbrev zSd : Type := Nat × (Nat → Nat × Nat) × (Nat → List (Nat × Nat)) × (Nat → Nat → Nat)
def fv (E : zE) (I : Nat → Int) (J : Nat → Int64) (d : Nat × Nat) (i : Nat) : Value := if d.1 = 0 then .int (iI (I i)) else if d.1 = 2 then .long (J i) else .ref (E.2.2 d.2)
def fsO (E : zE) (I : Nat → Int) (J : Nat → Int64) (ds : List (Nat × Nat)) : List Value := (List.range ds.length).map (fun i => fv E I J (ds.getD i (6, 0)) i)
def zce (sd : zSd) (E : zE) (M : zM) (k : Nat) : va_E :=
  if (sd.2.1 k).1 = 0 then .inl (E.2.1 0, (sd.2.1 k).2, .inl (fun i => iI (M.1 k i)))
  else if (sd.2.1 k).1 = 1 then .inl (E.2.1 1, (sd.2.1 k).2, .inl (fun i => iI (M.1 k i)))
  else if (sd.2.1 k).1 = 2 then .inl (E.2.1 2, (sd.2.1 k).2, .inr (.inl (fun i => M.2 k i)))
  else if (sd.2.1 k).1 = 3 then .inl (E.2.1 3, (sd.2.1 k).2, .inr (.inr (.inr (.inr (fun i => some (E.2.2 (sd.2.2.2 k i)))))))
  else if (sd.2.1 k).1 = 4 then .inl (E.2.1 4, (sd.2.1 k).2, .inr (.inr (.inr (.inr (fun i => some (E.2.2 (sd.2.2.2 k i)))))))
  else .inr ((sd.2.1 k).1 - 5, fsO E (M.1 k) (M.2 k) (sd.2.2.1 k))
abbrev zG : Type := zSd × zE × (Option Value → zM → Prop) × Launch × Program × Env × Room × State × MethodId × Array Value × List Frame × Method × Code
abbrev zad (G : zG) (k : Nat) : Nat := G.2.1.2.2 k
def tb : List Cond := lw_tbl.filter goodWord
theorem tb_in {w : Cond} (h : w ∈ lw_tbl) (hg : goodWord w = true) : w ∈ tb := List.mem_filter.mpr ⟨h, hg⟩
theorem tb_good : ∀ w ∈ tb, w ∈ tb ∧ ((w.onTables && w.keeps) = true ∨ ∃ ty, w = .arrayClass ty) := fun w h => ⟨h, good_of_word (List.mem_filter.mp h).2⟩
def zN (U : State) : Prop := va_Nw (.methodLinkNest "OldBeams$Frame" 83 ⟨"OldBeams", "isIn", "(II)Z"⟩ "OldBeams") U ∧ va_Nw (.methodLinkNest "OldBeams$Frame" 50 ⟨"OldBeams", "within", "(III)Z"⟩ "OldBeams") U ∧ va_Nw (.methodLinkNest "OldBeams$Frame" 45 ⟨"OldBeams$Beam", "<init>", "()V"⟩ "OldBeams") U ∧ va_Nw (.methodLinkNest "OldBeams" 25 ⟨"OldBeams$Fraction", "<init>", "()V"⟩ "OldBeams") U
theorem zN.warm {s U : State} (hW : s.WarmedH U.vm) (h : zN s) : zN U := ⟨va_Nw.warmM hW h.1, va_Nw.warmM hW h.2.1, va_Nw.warmM hW h.2.2.1, va_Nw.warmM hW h.2.2.2⟩
theorem zN.same {u U : State} (hv : u.vm = U.vm) (h : zN u) : zN U := ⟨va_Nw.same rfl hv h.1, va_Nw.same rfl hv h.2.1, va_Nw.same rfl hv h.2.2.1, va_Nw.same rfl hv h.2.2.2⟩
def zcl : List vw_C := [(RX_O, TX_O, 7), (RX_F, TX_F, 15), (RX_K, TX_K, 9), (RX_Q, TX_Q, 2), (RX_B, TX_B, 13), (RX_M, TX_M, 45)]
def zt (E : zE) : List (ClassId × FieldType) := [(E.2.1 0, .int), (E.2.1 1, .boolean), (E.2.1 2, .long), (E.2.1 3, .object "OldBeams$Beam"), (E.2.1 4, .array .int)]
def zw (sd : zSd) (E : zE) (M : zM) : va_W := (List.range sd.1).map (fun k => (E.2.2 k, zce sd E M k))
def zA (sd : zSd) (E : zE) : Nat → Prop := fun q => ∃ k, k < sd.1 ∧ q = E.2.2 k
theorem zw_at {sd : zSd} {E : zE} {M : zM} {k : Nat} (h : k < sd.1) : (zw sd E M)[k]? = some (E.2.2 k, zce sd E M k) := by
  unfold zw
  rw [List.getElem?_map, List.getElem?_range h]
  rfl
theorem zw_set {sd : zSd} {E : zE} {M M' : zM} {k : Nat} (h : k < sd.1) (hn : ∀ j, j ≠ k → zce sd E M' j = zce sd E M j) : (zw sd E M).set k (E.2.2 k, zce sd E M' k) = zw sd E M' := by
  apply List.ext_getElem?
  intro j
  by_cases hj : j < sd.1
  · by_cases e : j = k
    · subst e
      rw [List.getElem?_set_self (by simp [zw, h]), zw_at hj]
    · rw [List.getElem?_set_ne (fun q => e q.symm), zw_at hj, zw_at hj, hn j e]
  · have l1 : (zw sd E M).length = sd.1 := by simp [zw]
    have l2 : (zw sd E M').length = sd.1 := by simp [zw]
    rw [List.getElem?_eq_none (by rw [List.length_set, l1]; omega), List.getElem?_eq_none (by rw [l2]; omega)]
def zU (sd : zSd) (E : zE) (M : zM) (U : State) : Prop := va_P E.1 zcl (zw sd E M) U.heap ∧ va_D (zA sd E) (zw sd E M) ∧ va_K E.1 zcl (zt E) U ∧ zN U
/-- a method's contract on a side's memory: As the arguments, M the memory, P what comes back -/
def zRm (fr lc : Nat) : Room := { frames := fr, cells := 0, slots := 0, locals := lc }
def zQ (sd : zSd) (E : zE) (P : Option Value → zM → Prop) : Array Value → State → Outcome → State → Prop := fun _ st oc t => (∃ (v : Option Value) (M' : zM), oc = .returned v ∧ P v M' ∧ zU sd E M' t) ∧ va_F (zA sd E) st t
def zK (l : Launch) (sd : zSd) (E : zE) (y : MethodName) (bytes : ByteArray) (maxL : Nat) (ret : Option FieldType) (fr lc : Nat) (As : List Value) (M : zM) (P : Option Value → zM → Prop) : Prop :=
  Met l y (Cond.code y bytes maxL ret :: tb) (zRm fr lc) (va_Pc As (fun U => zU sd E M U)) (zQ sd E P) 0 0 (zA sd E)
def zPi (p : Int → zM → Prop) : Option Value → zM → Prop := fun v M' => ∃ z, v = some (.int (iI z)) ∧ p z M'
def zPl (p : Int64 → zM → Prop) : Option Value → zM → Prop := fun v M' => ∃ x, v = some (.long x) ∧ p x M'
def zPv (p : zM → Prop) : Option Value → zM → Prop := fun v M' => v = none ∧ p M'
/-- the locals, slot by slot -/
def lh (ls : Array Slot) (lo : List (Option Value)) : Prop := ls.size = lo.length ∧ lv_wf ls ∧ ∀ (i : Nat) (v : Value), lo[i]? = some (some v) → ls[i]? = some (.val v)
def zlo : List Value → List (Option Value)
  | [] => []
  | v :: vs => if v.category = 2 then some v :: none :: zlo vs else some v :: zlo vs
def zc1 (o : Option Value) : Bool := match o with
  | none => true
  | some v => v.category == 1
theorem zc1_spec {o : Option Value} (h : zc1 o = true) {v : Value} (hv : o = some v) : v.category = 1 := by
  subst hv
  simpa [zc1] using h
theorem lh_one {ls : Array Slot} {lo : List (Option Value)} (h : lh ls lo) {j : Nat} {w : Value} (hw : lo[j]? = some (some w)) : lv_has ls lo.length [(j, w)] := ⟨h.1, h.2.1, fun q hq => by
  rw [List.mem_singleton.mp hq]
  exact h.2.2 j w hw⟩
theorem lh_nil {ls : Array Slot} {lo : List (Option Value)} (h : lh ls lo) : lv_has ls lo.length [] := ⟨h.1, h.2.1, fun q hq => by cases hq⟩
theorem lh_store1 {ls : Array Slot} {lo : List (Option Value)} {i : Nat} {v : Value} (h : lh ls lo) (hi : i < lo.length) (hc : v.category = 1) (hp : ∀ (j : Nat) (w : Value), j + 1 = i → lo[j]? = some (some w) → w.category = 1) : ∃ ls', storeLocals ls i v = some ls' ∧ lh ls' (lo.set i (some v)) := by
  obtain ⟨ls', e, h'⟩ := lv_store1 (v := v) (lh_nil h) hi hc
  refine ⟨ls', e, by rw [h'.1, List.length_set], h'.2.1, fun j w hw => ?_⟩
  by_cases hj : j = i
  · subst hj
    rw [List.getElem?_set_self hi] at hw
    cases hw
    exact h'.2.2 (j, v) List.mem_cons_self
  · rw [List.getElem?_set_ne (fun q => hj q.symm)] at hw
    obtain ⟨ls2, e2, h2⟩ := lv_store1 (v := v) (lh_one h hw) hi hc
    rw [e] at e2
    cases e2
    refine h2.2.2 (j, w) (List.mem_cons_of_mem _ (List.mem_filter.mpr ⟨List.mem_singleton.mpr rfl, ?_⟩))
    by_cases hj1 : j + 1 = i
    · have := hp j w hj1 hw
      simp [hj, hj1, this]
    · simp [hj, hj1]
theorem lh_store2 {ls : Array Slot} {lo : List (Option Value)} {i : Nat} {v : Value} (h : lh ls lo) (hi : i + 1 < lo.length) (hc : v.category = 2) (hp : ∀ (j : Nat) (w : Value), j + 1 = i → lo[j]? = some (some w) → w.category = 1) : ∃ ls', storeLocals ls i v = some ls' ∧ lh ls' ((lo.set i (some v)).set (i + 1) none) := by
  obtain ⟨ls', e, h'⟩ := lv_store2 (v := v) (lh_nil h) hi hc
  refine ⟨ls', e, by rw [h'.1, List.length_set, List.length_set], h'.2.1, fun j w hw => ?_⟩
  by_cases hj2 : j = i + 1
  · subst hj2
    rw [List.getElem?_set_self (by rw [List.length_set]; exact hi)] at hw
    cases hw
  · rw [List.getElem?_set_ne (fun q => hj2 q.symm)] at hw
    by_cases hj : j = i
    · subst hj
      rw [List.getElem?_set_self (by omega)] at hw
      cases hw
      exact h'.2.2 (j, v) List.mem_cons_self
    · rw [List.getElem?_set_ne (fun q => hj q.symm)] at hw
      obtain ⟨ls2, e2, h2⟩ := lv_store2 (v := v) (lh_one h hw) hi hc
      rw [e] at e2
      cases e2
      refine h2.2.2 (j, w) (List.mem_cons_of_mem _ (List.mem_filter.mpr ⟨List.mem_singleton.mpr rfl, ?_⟩))
      by_cases hj1 : j + 1 = i
      · have := hp j w hj1 hw
        simp [hj, hj1, hj2, this]
      · simp [hj, hj1, hj2]
theorem zlo_args : ∀ (vs : List Value) (k j : Nat) (w : Value), (zlo vs)[j]? = some (some w) → (k + j, w) ∈ lv_args k vs
  | [], k, j, w, h => by simp [zlo] at h
  | v :: vs, k, j, w, h => by
    unfold zlo at h
    unfold lv_args
    by_cases hc : v.category = 2
    · rw [if_pos hc] at h ⊢
      match j, h with
      | 0, h => cases h; exact List.mem_cons_self
      | 1, h => cases h
      | j + 2, h =>
        refine List.mem_cons_of_mem _ ?_
        have := zlo_args vs (k + 2) j w (by simpa using h)
        rwa [show k + 2 + j = k + (j + 2) by omega] at this
    · rw [if_neg hc] at h ⊢
      match j, h with
      | 0, h => cases h; exact List.mem_cons_self
      | j + 1, h =>
        refine List.mem_cons_of_mem _ ?_
        have := zlo_args vs (k + 1) j w (by simpa using h)
        rwa [show k + 1 + j = k + (j + 1) by omega] at this
theorem zlo_len : ∀ vs : List Value, (zlo vs).length = (lg_sl vs).length
  | [] => rfl
  | v :: vs => by
    have ih := zlo_len vs
    unfold zlo
    by_cases hc : v.category = 2
    · rw [if_pos hc]
      simp [lg_sl, hc] at ih ⊢
      omega
    · rw [if_neg hc]
      simp [lg_sl, hc] at ih ⊢
      omega
theorem lh_entry {vs : List Value} {n : Nat} (h : (zlo vs).length ≤ n) : lh ((lg_sl vs ++ List.replicate (n - (lg_sl vs).length) Slot.unset).toArray) (zlo vs ++ List.replicate (n - (zlo vs).length) none) := by
  have hv := lv_entry vs (n := n) (by rw [← zlo_len]; exact h)
  refine ⟨?_, hv.2.1, fun i v hi => ?_⟩
  · rw [hv.1, List.length_append, List.length_replicate]
    omega
  · by_cases hl : i < (zlo vs).length
    · rw [List.getElem?_append_left hl] at hi
      have := zlo_args vs 0 i v hi
      rw [Nat.zero_add] at this
      exact hv.2.2 _ this
    · rw [List.getElem?_append_right (by omega)] at hi
      have := List.eq_of_mem_replicate (List.mem_of_getElem? hi)
      cases this
/-- the judgement: from memory M, at pc, with these locals and this stack, the method comes to its end as its contract says -/
def VJ (G : zG) (M : zM) (pc : Nat) (lo : List (Option Value)) (st : List Value) : Prop := match G with
  | (sd, E, P, l, p, e, R, s, m, args, below, meth, c) => ∀ (H : Heap) (locs : List Loc) (ls : Array Slot), va_P E.1 zcl (zw sd E M) H → va_D (zA sd E) (zw sd E M) → va_S (zA sd E) s.heap H locs → lh ls lo → W p l e R s m args below meth c H locs 0 0 (MQ below (zQ sd E P) args s 0 0 (zA sd E)) (F0 m pc ls st)
def zC (G : zG) (cc : ByteArray) (own : String) (ret : Option FieldType) (nL fr lc : Nat) : Prop := match G with
  | (sd, E, P, l, p, e, R, s, m, args, below, meth, c) => p.tables.exec = Jvm.exec ∧ c.code = cc ∧ meth.sig.returnType = ret ∧ c.maxLocals = nL ∧ s.vm.findClass own = some m.cls ∧ (∀ w ∈ tb, w.before args s = true) ∧ va_K E.1 zcl (zt E) s ∧ zN s ∧ meth.locks = false ∧ R = zRm fr lc
theorem zK.of {l : Launch} {sd : zSd} {E : zE} {y : MethodName} {bytes : ByteArray} {maxL : Nat} {ret : Option FieldType} {fr lc : Nat} {As : List Value} {M : zM} {P : Option Value → zM → Prop} (own : String) (ho : y.cls = own) (hy : plainName y.cls = true) (hlen : (zlo As).length ≤ maxL)
    (body : ∀ G : zG, G.1 = sd → G.2.1 = E → G.2.2.1 = P → G.2.2.2.1 = l → zC G bytes own ret maxL fr lc → VJ G M 0 (zlo As ++ List.replicate (maxL - (zlo As).length) none) []) : zK l sd E y bytes maxL ret fr lc As M P := by
  refine Met.ofW (cc := bytes) (maxL := maxL) (ret := ret) hy rfl ?_
  intro p e s m args below meth c s₁ B hml hv
  obtain ⟨rfl, hP, hD, hK, hN⟩ := hv
  have hts := atoms_spec (ws := Cond.code y bytes maxL ret :: tb) B.pre
  have hown : s.vm.findClass own = some m.cls := ho ▸ findClass_of_methodNamed B.named
  have hb := body (sd, E, P, l, p, e, (headSpec (Cond.code y bytes maxL ret :: tb) (zRm fr lc)).room, s, m, As.toArray, below, meth, c) rfl rfl rfl rfl ⟨B.exec, B.bytes, B.returns, hml, hown, fun w hw => hts w (List.mem_cons_of_mem _ hw), hK, hN, B.notSynchronized, rfl⟩
  rw [lg_entry_eq]
  exact hb s.heap [] _ hP hD va_S.rf (lh_entry hlen)
end
section
theorem iI_add (a b : Int) : iI a + iI b = iI (a + b) := (Int32.ofInt_add a b).symm
theorem iI_sub (a b : Int) : iI a - iI b = iI (a - b) := (Int32.ofInt_sub a b).symm
theorem iI_mul (a b : Int) : iI a * iI b = iI (a * b) := (Int32.ofInt_mul a b).symm
theorem iI_neg (a : Int) : -(iI a) = iI (-a) := (Int32.ofInt_neg (a := a)).symm
theorem iI_toInt {a : Int} (h : -2147483648 ≤ a ∧ a < 2147483648) : (iI a).toInt = a := Int32.toInt_ofInt_of_le (by simpa using h.1) (by simpa using h.2)
theorem iI_of (x : Int32) : x = iI x.toInt := Int32.ofInt_toInt x |>.symm
theorem iI_rng (x : Int32) : -2147483648 ≤ x.toInt ∧ x.toInt < 2147483648 := ⟨Int32.le_toInt x, Int32.toInt_lt x⟩
theorem iI_lt {a b : Int} (ha : -2147483648 ≤ a ∧ a < 2147483648) (hb : -2147483648 ≤ b ∧ b < 2147483648) : iI a < iI b ↔ a < b := by rw [Int32.lt_iff_toInt_lt, iI_toInt ha, iI_toInt hb]
theorem iI_le {a b : Int} (ha : -2147483648 ≤ a ∧ a < 2147483648) (hb : -2147483648 ≤ b ∧ b < 2147483648) : iI a ≤ iI b ↔ a ≤ b := by rw [Int32.le_iff_toInt_le, iI_toInt ha, iI_toInt hb]
theorem iI_eq {a b : Int} (ha : -2147483648 ≤ a ∧ a < 2147483648) (hb : -2147483648 ≤ b ∧ b < 2147483648) : iI a = iI b ↔ a = b := by rw [← Int32.toInt_inj, iI_toInt ha, iI_toInt hb]
theorem iI_0 : iI 0 = 0 := rfl
theorem iI_nI (n : Nat) : iI (n : Int) = nI n := Int32.toInt_inj.mp (by simp [iI, nI, Int32.toInt_ofInt, Int32.toInt_ofNat'])
theorem iI_l {a : Int} (h : -2147483648 ≤ a ∧ a < 2147483648) : (iI a).toInt64 = lI a := by
  apply Int64.toInt_inj.mp
  rw [Int32.toInt_toInt64, iI_toInt h, lI, Int64.toInt_ofInt_of_le (by simp; omega) (by simp; omega)]
theorem iI_div {a b : Int} (ha : 0 ≤ a ∧ a < 2147483648) (hb : 0 < b ∧ b < 2147483648) : iI a / iI b = iI (a / b) := by
  obtain ⟨n, rfl⟩ := Int.eq_ofNat_of_zero_le ha.1
  obtain ⟨k, rfl⟩ := Int.eq_ofNat_of_zero_le (Int.le_of_lt hb.1)
  rw [iI_nI, iI_nI, pk_div (by omega) (by omega) (by omega), ← iI_nI]
  rfl
theorem iI_rem {a b : Int} (ha : 0 ≤ a ∧ a < 2147483648) (hb : 0 < b ∧ b < 2147483648) : iI a - iI a / iI b * iI b = iI (a % b) := by
  obtain ⟨n, rfl⟩ := Int.eq_ofNat_of_zero_le ha.1
  obtain ⟨k, rfl⟩ := Int.eq_ofNat_of_zero_le (Int.le_of_lt hb.1)
  rw [iI_nI, iI_nI, pk_rem (by omega) (by omega) (by omega), ← iI_nI]
  rfl
theorem iI_in {a : Int} {n : Nat} (h0 : 0 ≤ a) (h1 : a < n) (hn : n < 2147483648) : vp_in (iI a) n ∧ (iI a).toNatClampNeg = a.toNat := by
  obtain ⟨k, rfl⟩ := Int.eq_ofNat_of_zero_le h0
  rw [iI_nI]
  exact ⟨vp_in_nI (by omega) (by omega), nI_clamp (by omega)⟩
theorem zb_pos {P : Prop} [Decidable P] (h : P) : zb P = 1 := if_pos h
theorem zb_neg {P : Prop} [Decidable P] (h : ¬ P) : zb P = 0 := if_neg h
theorem zb_01 (P : Prop) [Decidable P] : zb P = 0 ∨ zb P = 1 := by
  by_cases h : P
  · exact Or.inr (zb_pos h)
  · exact Or.inl (zb_neg h)
theorem zb_congr {P Q : Prop} [Decidable P] [Decidable Q] (h : P ↔ Q) : zb P = zb Q := by
  by_cases q : Q
  · rw [zb_pos (h.mpr q), zb_pos q]
  · rw [zb_neg (fun p => q (h.mp p)), zb_neg q]
theorem r_iconst {G : zG} {cc : ByteArray} {own : String} {ret : Option FieldType} {nL fr lc : Nat} (C : zC G cc own ret nL fr lc) {M : zM} {lo : List (Option Value)} {st : List Value} {pc : Nat} {n : Int} (d : decode cc pc = .ok (.iconst n, 1)) (k : VJ G M (pc + 1) lo (.int (iI n) :: st)) : VJ G M pc lo (st) := by
  obtain ⟨sd, E, P, l, p, e, R, s, m, args, below, meth, c⟩ := G
  obtain ⟨hx, hb, hr, hml, hown, hts, hK, hN, hlk, hR⟩ := C
  intro H locs ls hP hD hS hl
  refine lv_iconst hx hb d rfl ?_
  exact k H locs ls hP hD hS hl
theorem r_bipush {G : zG} {cc : ByteArray} {own : String} {ret : Option FieldType} {nL fr lc : Nat} (C : zC G cc own ret nL fr lc) {M : zM} {lo : List (Option Value)} {st : List Value} {pc : Nat} {n : Int} (hn : (Int8.ofInt n).toInt32 = iI n) (d : decode cc pc = .ok (.bipush n, 2)) (k : VJ G M (pc + 2) lo (.int (iI n) :: st)) : VJ G M pc lo (st) := by
  obtain ⟨sd, E, P, l, p, e, R, s, m, args, below, meth, c⟩ := G
  obtain ⟨hx, hb, hr, hml, hown, hts, hK, hN, hlk, hR⟩ := C
  intro H locs ls hP hD hS hl
  refine lv_bipush hx hb d hn ?_
  exact k H locs ls hP hD hS hl
theorem r_sipush {G : zG} {cc : ByteArray} {own : String} {ret : Option FieldType} {nL fr lc : Nat} (C : zC G cc own ret nL fr lc) {M : zM} {lo : List (Option Value)} {st : List Value} {pc : Nat} {n : Int} (hn : (Int16.ofInt n).toInt32 = iI n) (d : decode cc pc = .ok (.sipush n, 3)) (k : VJ G M (pc + 3) lo (.int (iI n) :: st)) : VJ G M pc lo (st) := by
  obtain ⟨sd, E, P, l, p, e, R, s, m, args, below, meth, c⟩ := G
  obtain ⟨hx, hb, hr, hml, hown, hts, hK, hN, hlk, hR⟩ := C
  intro H locs ls hP hD hS hl
  refine lv_sipush hx hb d hn ?_
  exact k H locs ls hP hD hS hl
theorem r_lconst {G : zG} {cc : ByteArray} {own : String} {ret : Option FieldType} {nL fr lc : Nat} (C : zC G cc own ret nL fr lc) {M : zM} {lo : List (Option Value)} {st : List Value} {pc : Nat} {n : Fin 2} {v : Int64} (hv : Int64.ofNat (n : Nat) = v) (d : decode cc pc = .ok (.lconst n, 1)) (k : VJ G M (pc + 1) lo (.long v :: st)) : VJ G M pc lo (st) := by
  obtain ⟨sd, E, P, l, p, e, R, s, m, args, below, meth, c⟩ := G
  obtain ⟨hx, hb, hr, hml, hown, hts, hK, hN, hlk, hR⟩ := C
  intro H locs ls hP hD hS hl
  refine lv_lconst hx hb d hv ?_
  exact k H locs ls hP hD hS hl
theorem r_ldc {G : zG} {cc : ByteArray} {own : String} {ret : Option FieldType} {nL fr lc : Nat} (C : zC G cc own ret nL fr lc) {M : zM} {lo : List (Option Value)} {st : List Value} {pc : Nat} {i : Nat} {z : Int} {v : Int32} (hw : Cond.constant own i v ∈ tb) (hv : v = iI z) (d : decode cc pc = .ok (.ldc i, 2)) (k : VJ G M (pc + 2) lo (.int (iI z) :: st)) : VJ G M pc lo (st) := by
  obtain ⟨sd, E, P, l, p, e, R, s, m, args, below, meth, c⟩ := G
  obtain ⟨hx, hb, hr, hml, hown, hts, hK, hN, hlk, hR⟩ := C
  intro H locs ls hP hD hS hl
  refine lv_ldc hx hb hown (hts _ hw) d ?_
  rw [hv]
  exact k H locs ls hP hD hS hl
theorem r_ldc2 {G : zG} {cc : ByteArray} {own : String} {ret : Option FieldType} {nL fr lc : Nat} (C : zC G cc own ret nL fr lc) {M : zM} {lo : List (Option Value)} {st : List Value} {pc : Nat} {i : Nat} {v : Int64} (hw : Cond.constantLong own i v ∈ tb) (d : decode cc pc = .ok (.ldc2_w i, 3)) (k : VJ G M (pc + 3) lo (.long v :: st)) : VJ G M pc lo (st) := by
  obtain ⟨sd, E, P, l, p, e, R, s, m, args, below, meth, c⟩ := G
  obtain ⟨hx, hb, hr, hml, hown, hts, hK, hN, hlk, hR⟩ := C
  intro H locs ls hP hD hS hl
  refine lv_ldc2 hx hb hown (hts _ hw) d ?_
  exact k H locs ls hP hD hS hl
theorem r_iadd {G : zG} {cc : ByteArray} {own : String} {ret : Option FieldType} {nL fr lc : Nat} (C : zC G cc own ret nL fr lc) {M : zM} {lo : List (Option Value)} {st : List Value} {pc : Nat} {a b : Int} (d : decode cc pc = .ok (.iadd, 1)) (k : VJ G M (pc + 1) lo (.int (iI (a + b)) :: st)) : VJ G M pc lo (.int (iI b) :: .int (iI a) :: st) := by
  obtain ⟨sd, E, P, l, p, e, R, s, m, args, below, meth, c⟩ := G
  obtain ⟨hx, hb, hr, hml, hown, hts, hK, hN, hlk, hR⟩ := C
  intro H locs ls hP hD hS hl
  refine lv_iadd hx hb d ?_
  rw [iI_add]
  exact k H locs ls hP hD hS hl
theorem r_isub {G : zG} {cc : ByteArray} {own : String} {ret : Option FieldType} {nL fr lc : Nat} (C : zC G cc own ret nL fr lc) {M : zM} {lo : List (Option Value)} {st : List Value} {pc : Nat} {a b : Int} (d : decode cc pc = .ok (.isub, 1)) (k : VJ G M (pc + 1) lo (.int (iI (a - b)) :: st)) : VJ G M pc lo (.int (iI b) :: .int (iI a) :: st) := by
  obtain ⟨sd, E, P, l, p, e, R, s, m, args, below, meth, c⟩ := G
  obtain ⟨hx, hb, hr, hml, hown, hts, hK, hN, hlk, hR⟩ := C
  intro H locs ls hP hD hS hl
  refine lv_isub hx hb d ?_
  rw [iI_sub]
  exact k H locs ls hP hD hS hl
theorem r_imul {G : zG} {cc : ByteArray} {own : String} {ret : Option FieldType} {nL fr lc : Nat} (C : zC G cc own ret nL fr lc) {M : zM} {lo : List (Option Value)} {st : List Value} {pc : Nat} {a b : Int} (d : decode cc pc = .ok (.imul, 1)) (k : VJ G M (pc + 1) lo (.int (iI (a * b)) :: st)) : VJ G M pc lo (.int (iI b) :: .int (iI a) :: st) := by
  obtain ⟨sd, E, P, l, p, e, R, s, m, args, below, meth, c⟩ := G
  obtain ⟨hx, hb, hr, hml, hown, hts, hK, hN, hlk, hR⟩ := C
  intro H locs ls hP hD hS hl
  refine lv_imul hx hb d ?_
  rw [iI_mul]
  exact k H locs ls hP hD hS hl
theorem r_idiv {G : zG} {cc : ByteArray} {own : String} {ret : Option FieldType} {nL fr lc : Nat} (C : zC G cc own ret nL fr lc) {M : zM} {lo : List (Option Value)} {st : List Value} {pc : Nat} {a b : Int} (ha : 0 ≤ a ∧ a < 2147483648) (hb0 : 0 < b ∧ b < 2147483648) (d : decode cc pc = .ok (.idiv, 1)) (k : VJ G M (pc + 1) lo (.int (iI (a / b)) :: st)) : VJ G M pc lo (.int (iI b) :: .int (iI a) :: st) := by
  obtain ⟨sd, E, P, l, p, e, R, s, m, args, below, meth, c⟩ := G
  obtain ⟨hx, hb, hr, hml, hown, hts, hK, hN, hlk, hR⟩ := C
  intro H locs ls hP hD hS hl
  refine lv_idiv hx hb d (by rw [← iI_0, iI_eq ⟨by omega, by omega⟩ ⟨by omega, by omega⟩]; omega) ?_
  rw [iI_div ha hb0]
  exact k H locs ls hP hD hS hl
theorem r_irem {G : zG} {cc : ByteArray} {own : String} {ret : Option FieldType} {nL fr lc : Nat} (C : zC G cc own ret nL fr lc) {M : zM} {lo : List (Option Value)} {st : List Value} {pc : Nat} {a b : Int} (ha : 0 ≤ a ∧ a < 2147483648) (hb0 : 0 < b ∧ b < 2147483648) (d : decode cc pc = .ok (.irem, 1)) (k : VJ G M (pc + 1) lo (.int (iI (a % b)) :: st)) : VJ G M pc lo (.int (iI b) :: .int (iI a) :: st) := by
  obtain ⟨sd, E, P, l, p, e, R, s, m, args, below, meth, c⟩ := G
  obtain ⟨hx, hb, hr, hml, hown, hts, hK, hN, hlk, hR⟩ := C
  intro H locs ls hP hD hS hl
  refine lv_irem hx hb d (by rw [← iI_0, iI_eq ⟨by omega, by omega⟩ ⟨by omega, by omega⟩]; omega) ?_
  rw [iI_rem ha hb0]
  exact k H locs ls hP hD hS hl
theorem r_ineg {G : zG} {cc : ByteArray} {own : String} {ret : Option FieldType} {nL fr lc : Nat} (C : zC G cc own ret nL fr lc) {M : zM} {lo : List (Option Value)} {st : List Value} {pc : Nat} {a : Int} (d : decode cc pc = .ok (.ineg, 1)) (k : VJ G M (pc + 1) lo (.int (iI (-a)) :: st)) : VJ G M pc lo (.int (iI a) :: st) := by
  obtain ⟨sd, E, P, l, p, e, R, s, m, args, below, meth, c⟩ := G
  obtain ⟨hx, hb, hr, hml, hown, hts, hK, hN, hlk, hR⟩ := C
  intro H locs ls hP hD hS hl
  refine lv_ineg hx hb d ?_
  rw [iI_neg]
  exact k H locs ls hP hD hS hl
theorem r_iand {G : zG} {cc : ByteArray} {own : String} {ret : Option FieldType} {nL fr lc : Nat} (C : zC G cc own ret nL fr lc) {M : zM} {lo : List (Option Value)} {st : List Value} {pc : Nat} {x y : Int32} {v : Int32} (hv : x &&& y = v) (d : decode cc pc = .ok (.iand, 1)) (k : VJ G M (pc + 1) lo (.int v :: st)) : VJ G M pc lo (.int y :: .int x :: st) := by
  obtain ⟨sd, E, P, l, p, e, R, s, m, args, below, meth, c⟩ := G
  obtain ⟨hx, hb, hr, hml, hown, hts, hK, hN, hlk, hR⟩ := C
  intro H locs ls hP hD hS hl
  refine lv_iand hx hb d ?_
  rw [hv]
  exact k H locs ls hP hD hS hl
theorem r_ior {G : zG} {cc : ByteArray} {own : String} {ret : Option FieldType} {nL fr lc : Nat} (C : zC G cc own ret nL fr lc) {M : zM} {lo : List (Option Value)} {st : List Value} {pc : Nat} {x y : Int32} {v : Int32} (hv : x ||| y = v) (d : decode cc pc = .ok (.ior, 1)) (k : VJ G M (pc + 1) lo (.int v :: st)) : VJ G M pc lo (.int y :: .int x :: st) := by
  obtain ⟨sd, E, P, l, p, e, R, s, m, args, below, meth, c⟩ := G
  obtain ⟨hx, hb, hr, hml, hown, hts, hK, hN, hlk, hR⟩ := C
  intro H locs ls hP hD hS hl
  refine lv_ior hx hb d ?_
  rw [hv]
  exact k H locs ls hP hD hS hl
theorem r_ixor {G : zG} {cc : ByteArray} {own : String} {ret : Option FieldType} {nL fr lc : Nat} (C : zC G cc own ret nL fr lc) {M : zM} {lo : List (Option Value)} {st : List Value} {pc : Nat} {x y : Int32} {v : Int32} (hv : x ^^^ y = v) (d : decode cc pc = .ok (.ixor, 1)) (k : VJ G M (pc + 1) lo (.int v :: st)) : VJ G M pc lo (.int y :: .int x :: st) := by
  obtain ⟨sd, E, P, l, p, e, R, s, m, args, below, meth, c⟩ := G
  obtain ⟨hx, hb, hr, hml, hown, hts, hK, hN, hlk, hR⟩ := C
  intro H locs ls hP hD hS hl
  refine lv_ixor hx hb d ?_
  rw [hv]
  exact k H locs ls hP hD hS hl
theorem r_ishl {G : zG} {cc : ByteArray} {own : String} {ret : Option FieldType} {nL fr lc : Nat} (C : zC G cc own ret nL fr lc) {M : zM} {lo : List (Option Value)} {st : List Value} {pc : Nat} {x y : Int32} {v : Int32} (hv : x <<< (y &&& 31) = v) (d : decode cc pc = .ok (.ishl, 1)) (k : VJ G M (pc + 1) lo (.int v :: st)) : VJ G M pc lo (.int y :: .int x :: st) := by
  obtain ⟨sd, E, P, l, p, e, R, s, m, args, below, meth, c⟩ := G
  obtain ⟨hx, hb, hr, hml, hown, hts, hK, hN, hlk, hR⟩ := C
  intro H locs ls hP hD hS hl
  refine lv_ishl hx hb d ?_
  rw [hv]
  exact k H locs ls hP hD hS hl
theorem r_ishr {G : zG} {cc : ByteArray} {own : String} {ret : Option FieldType} {nL fr lc : Nat} (C : zC G cc own ret nL fr lc) {M : zM} {lo : List (Option Value)} {st : List Value} {pc : Nat} {x y : Int32} {v : Int32} (hv : x >>> (y &&& 31) = v) (d : decode cc pc = .ok (.ishr, 1)) (k : VJ G M (pc + 1) lo (.int v :: st)) : VJ G M pc lo (.int y :: .int x :: st) := by
  obtain ⟨sd, E, P, l, p, e, R, s, m, args, below, meth, c⟩ := G
  obtain ⟨hx, hb, hr, hml, hown, hts, hK, hN, hlk, hR⟩ := C
  intro H locs ls hP hD hS hl
  refine lv_ishr hx hb d ?_
  rw [hv]
  exact k H locs ls hP hD hS hl
theorem r_iushr {G : zG} {cc : ByteArray} {own : String} {ret : Option FieldType} {nL fr lc : Nat} (C : zC G cc own ret nL fr lc) {M : zM} {lo : List (Option Value)} {st : List Value} {pc : Nat} {x y v : Int32} (hv : (x.toUInt32 >>> (y.toUInt32 &&& Int32.toUInt32 31)).toInt32 = v) (d : decode cc pc = .ok (.iushr, 1)) (k : VJ G M (pc + 1) lo (.int v :: st)) : VJ G M pc lo (.int y :: .int x :: st) := by
  obtain ⟨sd, E, P, l, p, e, R, s, m, args, below, meth, c⟩ := G
  obtain ⟨hx, hb, hr, hml, hown, hts, hK, hN, hlk, hR⟩ := C
  intro H locs ls hP hD hS hl
  refine lv_iushr hx hb d hv ?_
  exact k H locs ls hP hD hS hl
theorem r_iaddR {G : zG} {cc : ByteArray} {own : String} {ret : Option FieldType} {nL fr lc : Nat} (C : zC G cc own ret nL fr lc) {M : zM} {lo : List (Option Value)} {st : List Value} {pc : Nat} {x y v : Int32} (hv : x + y = v) (d : decode cc pc = .ok (.iadd, 1)) (k : VJ G M (pc + 1) lo (.int v :: st)) : VJ G M pc lo (.int y :: .int x :: st) := by
  obtain ⟨sd, E, P, l, p, e, R, s, m, args, below, meth, c⟩ := G
  obtain ⟨hx, hb, hr, hml, hown, hts, hK, hN, hlk, hR⟩ := C
  intro H locs ls hP hD hS hl
  refine lv_iadd hx hb d ?_
  rw [hv]
  exact k H locs ls hP hD hS hl
theorem r_isubR {G : zG} {cc : ByteArray} {own : String} {ret : Option FieldType} {nL fr lc : Nat} (C : zC G cc own ret nL fr lc) {M : zM} {lo : List (Option Value)} {st : List Value} {pc : Nat} {x y v : Int32} (hv : x - y = v) (d : decode cc pc = .ok (.isub, 1)) (k : VJ G M (pc + 1) lo (.int v :: st)) : VJ G M pc lo (.int y :: .int x :: st) := by
  obtain ⟨sd, E, P, l, p, e, R, s, m, args, below, meth, c⟩ := G
  obtain ⟨hx, hb, hr, hml, hown, hts, hK, hN, hlk, hR⟩ := C
  intro H locs ls hP hD hS hl
  refine lv_isub hx hb d ?_
  rw [hv]
  exact k H locs ls hP hD hS hl
theorem r_imulR {G : zG} {cc : ByteArray} {own : String} {ret : Option FieldType} {nL fr lc : Nat} (C : zC G cc own ret nL fr lc) {M : zM} {lo : List (Option Value)} {st : List Value} {pc : Nat} {x y v : Int32} (hv : x * y = v) (d : decode cc pc = .ok (.imul, 1)) (k : VJ G M (pc + 1) lo (.int v :: st)) : VJ G M pc lo (.int y :: .int x :: st) := by
  obtain ⟨sd, E, P, l, p, e, R, s, m, args, below, meth, c⟩ := G
  obtain ⟨hx, hb, hr, hml, hown, hts, hK, hN, hlk, hR⟩ := C
  intro H locs ls hP hD hS hl
  refine lv_imul hx hb d ?_
  rw [hv]
  exact k H locs ls hP hD hS hl
theorem r_ladd {G : zG} {cc : ByteArray} {own : String} {ret : Option FieldType} {nL fr lc : Nat} (C : zC G cc own ret nL fr lc) {M : zM} {lo : List (Option Value)} {st : List Value} {pc : Nat} {x y : Int64} (d : decode cc pc = .ok (.ladd, 1)) (k : VJ G M (pc + 1) lo (.long (x + y) :: st)) : VJ G M pc lo (.long y :: .long x :: st) := by
  obtain ⟨sd, E, P, l, p, e, R, s, m, args, below, meth, c⟩ := G
  obtain ⟨hx, hb, hr, hml, hown, hts, hK, hN, hlk, hR⟩ := C
  intro H locs ls hP hD hS hl
  refine lv_ladd hx hb d ?_
  exact k H locs ls hP hD hS hl
theorem r_lsub {G : zG} {cc : ByteArray} {own : String} {ret : Option FieldType} {nL fr lc : Nat} (C : zC G cc own ret nL fr lc) {M : zM} {lo : List (Option Value)} {st : List Value} {pc : Nat} {x y : Int64} (d : decode cc pc = .ok (.lsub, 1)) (k : VJ G M (pc + 1) lo (.long (x - y) :: st)) : VJ G M pc lo (.long y :: .long x :: st) := by
  obtain ⟨sd, E, P, l, p, e, R, s, m, args, below, meth, c⟩ := G
  obtain ⟨hx, hb, hr, hml, hown, hts, hK, hN, hlk, hR⟩ := C
  intro H locs ls hP hD hS hl
  refine lv_lsub hx hb d ?_
  exact k H locs ls hP hD hS hl
theorem r_lmul {G : zG} {cc : ByteArray} {own : String} {ret : Option FieldType} {nL fr lc : Nat} (C : zC G cc own ret nL fr lc) {M : zM} {lo : List (Option Value)} {st : List Value} {pc : Nat} {x y : Int64} (d : decode cc pc = .ok (.lmul, 1)) (k : VJ G M (pc + 1) lo (.long (x * y) :: st)) : VJ G M pc lo (.long y :: .long x :: st) := by
  obtain ⟨sd, E, P, l, p, e, R, s, m, args, below, meth, c⟩ := G
  obtain ⟨hx, hb, hr, hml, hown, hts, hK, hN, hlk, hR⟩ := C
  intro H locs ls hP hD hS hl
  refine lv_lmul hx hb d ?_
  exact k H locs ls hP hD hS hl
theorem r_lxor {G : zG} {cc : ByteArray} {own : String} {ret : Option FieldType} {nL fr lc : Nat} (C : zC G cc own ret nL fr lc) {M : zM} {lo : List (Option Value)} {st : List Value} {pc : Nat} {x y : Int64} (d : decode cc pc = .ok (.lxor, 1)) (k : VJ G M (pc + 1) lo (.long (x ^^^ y) :: st)) : VJ G M pc lo (.long y :: .long x :: st) := by
  obtain ⟨sd, E, P, l, p, e, R, s, m, args, below, meth, c⟩ := G
  obtain ⟨hx, hb, hr, hml, hown, hts, hK, hN, hlk, hR⟩ := C
  intro H locs ls hP hD hS hl
  refine lv_lxor hx hb d ?_
  exact k H locs ls hP hD hS hl
theorem r_ldiv {G : zG} {cc : ByteArray} {own : String} {ret : Option FieldType} {nL fr lc : Nat} (C : zC G cc own ret nL fr lc) {M : zM} {lo : List (Option Value)} {st : List Value} {pc : Nat} {x y : Int64} (hy : ¬ y = 0) (d : decode cc pc = .ok (.ldiv, 1)) (k : VJ G M (pc + 1) lo (.long (x / y) :: st)) : VJ G M pc lo (.long y :: .long x :: st) := by
  obtain ⟨sd, E, P, l, p, e, R, s, m, args, below, meth, c⟩ := G
  obtain ⟨hx, hb, hr, hml, hown, hts, hK, hN, hlk, hR⟩ := C
  intro H locs ls hP hD hS hl
  refine lv_ldiv hx hb d hy ?_
  exact k H locs ls hP hD hS hl
theorem r_lrem {G : zG} {cc : ByteArray} {own : String} {ret : Option FieldType} {nL fr lc : Nat} (C : zC G cc own ret nL fr lc) {M : zM} {lo : List (Option Value)} {st : List Value} {pc : Nat} {x y : Int64} (hy : ¬ y = 0) (d : decode cc pc = .ok (.lrem, 1)) (k : VJ G M (pc + 1) lo (.long (x - x / y * y) :: st)) : VJ G M pc lo (.long y :: .long x :: st) := by
  obtain ⟨sd, E, P, l, p, e, R, s, m, args, below, meth, c⟩ := G
  obtain ⟨hx, hb, hr, hml, hown, hts, hK, hN, hlk, hR⟩ := C
  intro H locs ls hP hD hS hl
  refine lv_lrem hx hb d hy ?_
  exact k H locs ls hP hD hS hl
theorem r_lneg {G : zG} {cc : ByteArray} {own : String} {ret : Option FieldType} {nL fr lc : Nat} (C : zC G cc own ret nL fr lc) {M : zM} {lo : List (Option Value)} {st : List Value} {pc : Nat} {x v : Int64} (hv : -x = v) (d : decode cc pc = .ok (.lneg, 1)) (k : VJ G M (pc + 1) lo (.long v :: st)) : VJ G M pc lo (.long x :: st) := by
  obtain ⟨sd, E, P, l, p, e, R, s, m, args, below, meth, c⟩ := G
  obtain ⟨hx, hb, hr, hml, hown, hts, hK, hN, hlk, hR⟩ := C
  intro H locs ls hP hD hS hl
  refine lv_lneg hx hb d ?_
  rw [hv]
  exact k H locs ls hP hD hS hl
theorem r_i2l {G : zG} {cc : ByteArray} {own : String} {ret : Option FieldType} {nL fr lc : Nat} (C : zC G cc own ret nL fr lc) {M : zM} {lo : List (Option Value)} {st : List Value} {pc : Nat} {a : Int} (h : -2147483648 ≤ a ∧ a < 2147483648) (d : decode cc pc = .ok (.i2l, 1)) (k : VJ G M (pc + 1) lo (.long (lI a) :: st)) : VJ G M pc lo (.int (iI a) :: st) := by
  obtain ⟨sd, E, P, l, p, e, R, s, m, args, below, meth, c⟩ := G
  obtain ⟨hx, hb, hr, hml, hown, hts, hK, hN, hlk, hR⟩ := C
  intro H locs ls hP hD hS hl
  refine lv_i2l hx hb d (iI_l h) ?_
  exact k H locs ls hP hD hS hl
theorem r_dup {G : zG} {cc : ByteArray} {own : String} {ret : Option FieldType} {nL fr lc : Nat} (C : zC G cc own ret nL fr lc) {M : zM} {lo : List (Option Value)} {st : List Value} {pc : Nat} {v : Value} (hv : v.category = 1) (d : decode cc pc = .ok (.dup, 1)) (k : VJ G M (pc + 1) lo (v :: v :: st)) : VJ G M pc lo (v :: st) := by
  obtain ⟨sd, E, P, l, p, e, R, s, m, args, below, meth, c⟩ := G
  obtain ⟨hx, hb, hr, hml, hown, hts, hK, hN, hlk, hR⟩ := C
  intro H locs ls hP hD hS hl
  refine lv_dup hx hb d hv ?_
  exact k H locs ls hP hD hS hl
theorem r_pop {G : zG} {cc : ByteArray} {own : String} {ret : Option FieldType} {nL fr lc : Nat} (C : zC G cc own ret nL fr lc) {M : zM} {lo : List (Option Value)} {st : List Value} {pc : Nat} {v : Value} (hv : v.category = 1) (d : decode cc pc = .ok (.pop, 1)) (k : VJ G M (pc + 1) lo (st)) : VJ G M pc lo (v :: st) := by
  obtain ⟨sd, E, P, l, p, e, R, s, m, args, below, meth, c⟩ := G
  obtain ⟨hx, hb, hr, hml, hown, hts, hK, hN, hlk, hR⟩ := C
  intro H locs ls hP hD hS hl
  refine lv_pop hx hb d hv ?_
  exact k H locs ls hP hD hS hl
theorem r_dup2 {G : zG} {cc : ByteArray} {own : String} {ret : Option FieldType} {nL fr lc : Nat} (C : zC G cc own ret nL fr lc) {M : zM} {lo : List (Option Value)} {st : List Value} {pc : Nat} {v w : Value} (hv : v.category = 1) (hw : w.category = 1) (d : decode cc pc = .ok (.dup2, 1)) (k : VJ G M (pc + 1) lo (v :: w :: v :: w :: st)) : VJ G M pc lo (v :: w :: st) := by
  obtain ⟨sd, E, P, l, p, e, R, s, m, args, below, meth, c⟩ := G
  obtain ⟨hx, hb, hr, hml, hown, hts, hK, hN, hlk, hR⟩ := C
  intro H locs ls hP hD hS hl
  refine lv_dup2_11 hx hb d hv hw ?_
  exact k H locs ls hP hD hS hl
theorem r_topi {G : zG} {M : zM} {pc : Nat} {lo : List (Option Value)} {st : List Value} {x y : Int32} (h : x = y) (k : VJ G M pc lo (.int y :: st)) : VJ G M pc lo (.int x :: st) := by
  rw [h]
  exact k
theorem r_topl {G : zG} {M : zM} {pc : Nat} {lo : List (Option Value)} {st : List Value} {x y : Int64} (h : x = y) (k : VJ G M pc lo (.long y :: st)) : VJ G M pc lo (.long x :: st) := by
  rw [h]
  exact k
theorem r_topZ {G : zG} {M : zM} {pc : Nat} {lo : List (Option Value)} {st : List Value} {a b : Int} (h : a = b) (k : VJ G M pc lo (.int (iI b) :: st)) : VJ G M pc lo (.int (iI a) :: st) := by
  rw [h]
  exact k
theorem r_mem {G : zG} {M M2 : zM} {pc : Nat} {lo : List (Option Value)} {st : List Value} (h : M = M2) (k : VJ G M2 pc lo st) : VJ G M pc lo st := by
  rw [h]
  exact k
def lo_le : List (Option Value) → List (Option Value) → Prop
  | [], [] => True
  | a :: l, b :: r => (b = none ∨ a = b) ∧ lo_le l r
  | _, _ => False
theorem lo_le_at : ∀ {l r : List (Option Value)}, lo_le l r → l.length = r.length ∧ ∀ (i : Nat) (v : Value), r[i]? = some (some v) → l[i]? = some (some v)
  | [], [], _ => ⟨rfl, fun i v h => by simp at h⟩
  | [], _ :: _, h => h.elim
  | _ :: _, [], h => h.elim
  | a :: l, b :: r, h => by
    obtain ⟨h1, h2⟩ := h
    obtain ⟨e, f⟩ := lo_le_at h2
    refine ⟨by simp [e], fun i v hi => ?_⟩
    match i, hi with
    | 0, hi =>
      rcases h1 with h1 | h1
      · rw [h1] at hi; cases hi
      · rw [h1]; exact hi
    | i + 1, hi => exact f i v hi
theorem r_weak {G : zG} {M : zM} {pc : Nat} {lo lo2 : List (Option Value)} {st : List Value} (h : lo_le lo lo2) (k : VJ G M pc lo2 st) : VJ G M pc lo st := by
  obtain ⟨sd, E, P, l, p, e, R, s, m, args, below, meth, c⟩ := G
  intro H locs ls hP hD hS hl
  obtain ⟨e1, e2⟩ := lo_le_at h
  exact k H locs ls hP hD hS ⟨hl.1.trans e1, hl.2.1, fun i v hi => hl.2.2 i v (e2 i v hi)⟩
theorem r_ild0 {G : zG} {cc : ByteArray} {own : String} {ret : Option FieldType} {nL fr lc : Nat} (C : zC G cc own ret nL fr lc) {M : zM} {r : List (Option Value)} {st : List Value} {pc : Nat} {x : Int32} (d : decode cc pc = .ok (.iload_n 0, 1)) (k : VJ G M (pc + 1) (some (.int x) :: r) (.int x :: st)) : VJ G M pc (some (.int x) :: r) st := by
  obtain ⟨sd, E, P, l, p, e, R, s, m, args, below, meth, c⟩ := G
  obtain ⟨hx, hb, hr, hml, hown, hts, hK, hN, hlk, hR⟩ := C
  intro H locs ls hP hD hS hl
  refine lv_iload_n hx hb d rfl (hl.2.2 0 _ rfl) ?_
  exact k H locs ls hP hD hS hl
theorem r_ild1 {G : zG} {cc : ByteArray} {own : String} {ret : Option FieldType} {nL fr lc : Nat} (C : zC G cc own ret nL fr lc) {M : zM} {r : List (Option Value)} {st : List Value} {pc : Nat} {a0 : Option Value} {x : Int32} (d : decode cc pc = .ok (.iload_n 1, 1)) (k : VJ G M (pc + 1) (a0 :: some (.int x) :: r) (.int x :: st)) : VJ G M pc (a0 :: some (.int x) :: r) st := by
  obtain ⟨sd, E, P, l, p, e, R, s, m, args, below, meth, c⟩ := G
  obtain ⟨hx, hb, hr, hml, hown, hts, hK, hN, hlk, hR⟩ := C
  intro H locs ls hP hD hS hl
  refine lv_iload_n hx hb d rfl (hl.2.2 1 _ rfl) ?_
  exact k H locs ls hP hD hS hl
theorem r_ild2 {G : zG} {cc : ByteArray} {own : String} {ret : Option FieldType} {nL fr lc : Nat} (C : zC G cc own ret nL fr lc) {M : zM} {r : List (Option Value)} {st : List Value} {pc : Nat} {a0 a1 : Option Value} {x : Int32} (d : decode cc pc = .ok (.iload_n 2, 1)) (k : VJ G M (pc + 1) (a0 :: a1 :: some (.int x) :: r) (.int x :: st)) : VJ G M pc (a0 :: a1 :: some (.int x) :: r) st := by
  obtain ⟨sd, E, P, l, p, e, R, s, m, args, below, meth, c⟩ := G
  obtain ⟨hx, hb, hr, hml, hown, hts, hK, hN, hlk, hR⟩ := C
  intro H locs ls hP hD hS hl
  refine lv_iload_n hx hb d rfl (hl.2.2 2 _ rfl) ?_
  exact k H locs ls hP hD hS hl
theorem r_ild3 {G : zG} {cc : ByteArray} {own : String} {ret : Option FieldType} {nL fr lc : Nat} (C : zC G cc own ret nL fr lc) {M : zM} {r : List (Option Value)} {st : List Value} {pc : Nat} {a0 a1 a2 : Option Value} {x : Int32} (d : decode cc pc = .ok (.iload_n 3, 1)) (k : VJ G M (pc + 1) (a0 :: a1 :: a2 :: some (.int x) :: r) (.int x :: st)) : VJ G M pc (a0 :: a1 :: a2 :: some (.int x) :: r) st := by
  obtain ⟨sd, E, P, l, p, e, R, s, m, args, below, meth, c⟩ := G
  obtain ⟨hx, hb, hr, hml, hown, hts, hK, hN, hlk, hR⟩ := C
  intro H locs ls hP hD hS hl
  refine lv_iload_n hx hb d rfl (hl.2.2 3 _ rfl) ?_
  exact k H locs ls hP hD hS hl
theorem r_ild4 {G : zG} {cc : ByteArray} {own : String} {ret : Option FieldType} {nL fr lc : Nat} (C : zC G cc own ret nL fr lc) {M : zM} {r : List (Option Value)} {st : List Value} {pc : Nat} {a0 a1 a2 a3 : Option Value} {x : Int32} (d : decode cc pc = .ok (.iload 4, 2)) (k : VJ G M (pc + 2) (a0 :: a1 :: a2 :: a3 :: some (.int x) :: r) (.int x :: st)) : VJ G M pc (a0 :: a1 :: a2 :: a3 :: some (.int x) :: r) st := by
  obtain ⟨sd, E, P, l, p, e, R, s, m, args, below, meth, c⟩ := G
  obtain ⟨hx, hb, hr, hml, hown, hts, hK, hN, hlk, hR⟩ := C
  intro H locs ls hP hD hS hl
  refine lv_iload hx hb d (hl.2.2 4 _ rfl) ?_
  exact k H locs ls hP hD hS hl
theorem r_ild5 {G : zG} {cc : ByteArray} {own : String} {ret : Option FieldType} {nL fr lc : Nat} (C : zC G cc own ret nL fr lc) {M : zM} {r : List (Option Value)} {st : List Value} {pc : Nat} {a0 a1 a2 a3 a4 : Option Value} {x : Int32} (d : decode cc pc = .ok (.iload 5, 2)) (k : VJ G M (pc + 2) (a0 :: a1 :: a2 :: a3 :: a4 :: some (.int x) :: r) (.int x :: st)) : VJ G M pc (a0 :: a1 :: a2 :: a3 :: a4 :: some (.int x) :: r) st := by
  obtain ⟨sd, E, P, l, p, e, R, s, m, args, below, meth, c⟩ := G
  obtain ⟨hx, hb, hr, hml, hown, hts, hK, hN, hlk, hR⟩ := C
  intro H locs ls hP hD hS hl
  refine lv_iload hx hb d (hl.2.2 5 _ rfl) ?_
  exact k H locs ls hP hD hS hl
theorem r_ild6 {G : zG} {cc : ByteArray} {own : String} {ret : Option FieldType} {nL fr lc : Nat} (C : zC G cc own ret nL fr lc) {M : zM} {r : List (Option Value)} {st : List Value} {pc : Nat} {a0 a1 a2 a3 a4 a5 : Option Value} {x : Int32} (d : decode cc pc = .ok (.iload 6, 2)) (k : VJ G M (pc + 2) (a0 :: a1 :: a2 :: a3 :: a4 :: a5 :: some (.int x) :: r) (.int x :: st)) : VJ G M pc (a0 :: a1 :: a2 :: a3 :: a4 :: a5 :: some (.int x) :: r) st := by
  obtain ⟨sd, E, P, l, p, e, R, s, m, args, below, meth, c⟩ := G
  obtain ⟨hx, hb, hr, hml, hown, hts, hK, hN, hlk, hR⟩ := C
  intro H locs ls hP hD hS hl
  refine lv_iload hx hb d (hl.2.2 6 _ rfl) ?_
  exact k H locs ls hP hD hS hl
theorem r_ild7 {G : zG} {cc : ByteArray} {own : String} {ret : Option FieldType} {nL fr lc : Nat} (C : zC G cc own ret nL fr lc) {M : zM} {r : List (Option Value)} {st : List Value} {pc : Nat} {a0 a1 a2 a3 a4 a5 a6 : Option Value} {x : Int32} (d : decode cc pc = .ok (.iload 7, 2)) (k : VJ G M (pc + 2) (a0 :: a1 :: a2 :: a3 :: a4 :: a5 :: a6 :: some (.int x) :: r) (.int x :: st)) : VJ G M pc (a0 :: a1 :: a2 :: a3 :: a4 :: a5 :: a6 :: some (.int x) :: r) st := by
  obtain ⟨sd, E, P, l, p, e, R, s, m, args, below, meth, c⟩ := G
  obtain ⟨hx, hb, hr, hml, hown, hts, hK, hN, hlk, hR⟩ := C
  intro H locs ls hP hD hS hl
  refine lv_iload hx hb d (hl.2.2 7 _ rfl) ?_
  exact k H locs ls hP hD hS hl
theorem r_ild8 {G : zG} {cc : ByteArray} {own : String} {ret : Option FieldType} {nL fr lc : Nat} (C : zC G cc own ret nL fr lc) {M : zM} {r : List (Option Value)} {st : List Value} {pc : Nat} {a0 a1 a2 a3 a4 a5 a6 a7 : Option Value} {x : Int32} (d : decode cc pc = .ok (.iload 8, 2)) (k : VJ G M (pc + 2) (a0 :: a1 :: a2 :: a3 :: a4 :: a5 :: a6 :: a7 :: some (.int x) :: r) (.int x :: st)) : VJ G M pc (a0 :: a1 :: a2 :: a3 :: a4 :: a5 :: a6 :: a7 :: some (.int x) :: r) st := by
  obtain ⟨sd, E, P, l, p, e, R, s, m, args, below, meth, c⟩ := G
  obtain ⟨hx, hb, hr, hml, hown, hts, hK, hN, hlk, hR⟩ := C
  intro H locs ls hP hD hS hl
  refine lv_iload hx hb d (hl.2.2 8 _ rfl) ?_
  exact k H locs ls hP hD hS hl
theorem r_ild9 {G : zG} {cc : ByteArray} {own : String} {ret : Option FieldType} {nL fr lc : Nat} (C : zC G cc own ret nL fr lc) {M : zM} {r : List (Option Value)} {st : List Value} {pc : Nat} {a0 a1 a2 a3 a4 a5 a6 a7 a8 : Option Value} {x : Int32} (d : decode cc pc = .ok (.iload 9, 2)) (k : VJ G M (pc + 2) (a0 :: a1 :: a2 :: a3 :: a4 :: a5 :: a6 :: a7 :: a8 :: some (.int x) :: r) (.int x :: st)) : VJ G M pc (a0 :: a1 :: a2 :: a3 :: a4 :: a5 :: a6 :: a7 :: a8 :: some (.int x) :: r) st := by
  obtain ⟨sd, E, P, l, p, e, R, s, m, args, below, meth, c⟩ := G
  obtain ⟨hx, hb, hr, hml, hown, hts, hK, hN, hlk, hR⟩ := C
  intro H locs ls hP hD hS hl
  refine lv_iload hx hb d (hl.2.2 9 _ rfl) ?_
  exact k H locs ls hP hD hS hl
theorem r_ild10 {G : zG} {cc : ByteArray} {own : String} {ret : Option FieldType} {nL fr lc : Nat} (C : zC G cc own ret nL fr lc) {M : zM} {r : List (Option Value)} {st : List Value} {pc : Nat} {a0 a1 a2 a3 a4 a5 a6 a7 a8 a9 : Option Value} {x : Int32} (d : decode cc pc = .ok (.iload 10, 2)) (k : VJ G M (pc + 2) (a0 :: a1 :: a2 :: a3 :: a4 :: a5 :: a6 :: a7 :: a8 :: a9 :: some (.int x) :: r) (.int x :: st)) : VJ G M pc (a0 :: a1 :: a2 :: a3 :: a4 :: a5 :: a6 :: a7 :: a8 :: a9 :: some (.int x) :: r) st := by
  obtain ⟨sd, E, P, l, p, e, R, s, m, args, below, meth, c⟩ := G
  obtain ⟨hx, hb, hr, hml, hown, hts, hK, hN, hlk, hR⟩ := C
  intro H locs ls hP hD hS hl
  refine lv_iload hx hb d (hl.2.2 10 _ rfl) ?_
  exact k H locs ls hP hD hS hl
theorem r_ild11 {G : zG} {cc : ByteArray} {own : String} {ret : Option FieldType} {nL fr lc : Nat} (C : zC G cc own ret nL fr lc) {M : zM} {r : List (Option Value)} {st : List Value} {pc : Nat} {a0 a1 a2 a3 a4 a5 a6 a7 a8 a9 a10 : Option Value} {x : Int32} (d : decode cc pc = .ok (.iload 11, 2)) (k : VJ G M (pc + 2) (a0 :: a1 :: a2 :: a3 :: a4 :: a5 :: a6 :: a7 :: a8 :: a9 :: a10 :: some (.int x) :: r) (.int x :: st)) : VJ G M pc (a0 :: a1 :: a2 :: a3 :: a4 :: a5 :: a6 :: a7 :: a8 :: a9 :: a10 :: some (.int x) :: r) st := by
  obtain ⟨sd, E, P, l, p, e, R, s, m, args, below, meth, c⟩ := G
  obtain ⟨hx, hb, hr, hml, hown, hts, hK, hN, hlk, hR⟩ := C
  intro H locs ls hP hD hS hl
  refine lv_iload hx hb d (hl.2.2 11 _ rfl) ?_
  exact k H locs ls hP hD hS hl
theorem r_ild12 {G : zG} {cc : ByteArray} {own : String} {ret : Option FieldType} {nL fr lc : Nat} (C : zC G cc own ret nL fr lc) {M : zM} {r : List (Option Value)} {st : List Value} {pc : Nat} {a0 a1 a2 a3 a4 a5 a6 a7 a8 a9 a10 a11 : Option Value} {x : Int32} (d : decode cc pc = .ok (.iload 12, 2)) (k : VJ G M (pc + 2) (a0 :: a1 :: a2 :: a3 :: a4 :: a5 :: a6 :: a7 :: a8 :: a9 :: a10 :: a11 :: some (.int x) :: r) (.int x :: st)) : VJ G M pc (a0 :: a1 :: a2 :: a3 :: a4 :: a5 :: a6 :: a7 :: a8 :: a9 :: a10 :: a11 :: some (.int x) :: r) st := by
  obtain ⟨sd, E, P, l, p, e, R, s, m, args, below, meth, c⟩ := G
  obtain ⟨hx, hb, hr, hml, hown, hts, hK, hN, hlk, hR⟩ := C
  intro H locs ls hP hD hS hl
  refine lv_iload hx hb d (hl.2.2 12 _ rfl) ?_
  exact k H locs ls hP hD hS hl
theorem r_lld0 {G : zG} {cc : ByteArray} {own : String} {ret : Option FieldType} {nL fr lc : Nat} (C : zC G cc own ret nL fr lc) {M : zM} {r : List (Option Value)} {st : List Value} {pc : Nat} {x : Int64} (d : decode cc pc = .ok (.lload_n 0, 1)) (k : VJ G M (pc + 1) (some (.long x) :: r) (.long x :: st)) : VJ G M pc (some (.long x) :: r) st := by
  obtain ⟨sd, E, P, l, p, e, R, s, m, args, below, meth, c⟩ := G
  obtain ⟨hx, hb, hr, hml, hown, hts, hK, hN, hlk, hR⟩ := C
  intro H locs ls hP hD hS hl
  refine lv_lload_n hx hb d rfl (hl.2.2 0 _ rfl) ?_
  exact k H locs ls hP hD hS hl
theorem r_lld1 {G : zG} {cc : ByteArray} {own : String} {ret : Option FieldType} {nL fr lc : Nat} (C : zC G cc own ret nL fr lc) {M : zM} {r : List (Option Value)} {st : List Value} {pc : Nat} {a0 : Option Value} {x : Int64} (d : decode cc pc = .ok (.lload_n 1, 1)) (k : VJ G M (pc + 1) (a0 :: some (.long x) :: r) (.long x :: st)) : VJ G M pc (a0 :: some (.long x) :: r) st := by
  obtain ⟨sd, E, P, l, p, e, R, s, m, args, below, meth, c⟩ := G
  obtain ⟨hx, hb, hr, hml, hown, hts, hK, hN, hlk, hR⟩ := C
  intro H locs ls hP hD hS hl
  refine lv_lload_n hx hb d rfl (hl.2.2 1 _ rfl) ?_
  exact k H locs ls hP hD hS hl
theorem r_lld2 {G : zG} {cc : ByteArray} {own : String} {ret : Option FieldType} {nL fr lc : Nat} (C : zC G cc own ret nL fr lc) {M : zM} {r : List (Option Value)} {st : List Value} {pc : Nat} {a0 a1 : Option Value} {x : Int64} (d : decode cc pc = .ok (.lload_n 2, 1)) (k : VJ G M (pc + 1) (a0 :: a1 :: some (.long x) :: r) (.long x :: st)) : VJ G M pc (a0 :: a1 :: some (.long x) :: r) st := by
  obtain ⟨sd, E, P, l, p, e, R, s, m, args, below, meth, c⟩ := G
  obtain ⟨hx, hb, hr, hml, hown, hts, hK, hN, hlk, hR⟩ := C
  intro H locs ls hP hD hS hl
  refine lv_lload_n hx hb d rfl (hl.2.2 2 _ rfl) ?_
  exact k H locs ls hP hD hS hl
theorem r_lld3 {G : zG} {cc : ByteArray} {own : String} {ret : Option FieldType} {nL fr lc : Nat} (C : zC G cc own ret nL fr lc) {M : zM} {r : List (Option Value)} {st : List Value} {pc : Nat} {a0 a1 a2 : Option Value} {x : Int64} (d : decode cc pc = .ok (.lload_n 3, 1)) (k : VJ G M (pc + 1) (a0 :: a1 :: a2 :: some (.long x) :: r) (.long x :: st)) : VJ G M pc (a0 :: a1 :: a2 :: some (.long x) :: r) st := by
  obtain ⟨sd, E, P, l, p, e, R, s, m, args, below, meth, c⟩ := G
  obtain ⟨hx, hb, hr, hml, hown, hts, hK, hN, hlk, hR⟩ := C
  intro H locs ls hP hD hS hl
  refine lv_lload_n hx hb d rfl (hl.2.2 3 _ rfl) ?_
  exact k H locs ls hP hD hS hl
theorem r_lld4 {G : zG} {cc : ByteArray} {own : String} {ret : Option FieldType} {nL fr lc : Nat} (C : zC G cc own ret nL fr lc) {M : zM} {r : List (Option Value)} {st : List Value} {pc : Nat} {a0 a1 a2 a3 : Option Value} {x : Int64} (d : decode cc pc = .ok (.lload 4, 2)) (k : VJ G M (pc + 2) (a0 :: a1 :: a2 :: a3 :: some (.long x) :: r) (.long x :: st)) : VJ G M pc (a0 :: a1 :: a2 :: a3 :: some (.long x) :: r) st := by
  obtain ⟨sd, E, P, l, p, e, R, s, m, args, below, meth, c⟩ := G
  obtain ⟨hx, hb, hr, hml, hown, hts, hK, hN, hlk, hR⟩ := C
  intro H locs ls hP hD hS hl
  refine lv_lload hx hb d (hl.2.2 4 _ rfl) ?_
  exact k H locs ls hP hD hS hl
theorem r_lld5 {G : zG} {cc : ByteArray} {own : String} {ret : Option FieldType} {nL fr lc : Nat} (C : zC G cc own ret nL fr lc) {M : zM} {r : List (Option Value)} {st : List Value} {pc : Nat} {a0 a1 a2 a3 a4 : Option Value} {x : Int64} (d : decode cc pc = .ok (.lload 5, 2)) (k : VJ G M (pc + 2) (a0 :: a1 :: a2 :: a3 :: a4 :: some (.long x) :: r) (.long x :: st)) : VJ G M pc (a0 :: a1 :: a2 :: a3 :: a4 :: some (.long x) :: r) st := by
  obtain ⟨sd, E, P, l, p, e, R, s, m, args, below, meth, c⟩ := G
  obtain ⟨hx, hb, hr, hml, hown, hts, hK, hN, hlk, hR⟩ := C
  intro H locs ls hP hD hS hl
  refine lv_lload hx hb d (hl.2.2 5 _ rfl) ?_
  exact k H locs ls hP hD hS hl
theorem r_lld6 {G : zG} {cc : ByteArray} {own : String} {ret : Option FieldType} {nL fr lc : Nat} (C : zC G cc own ret nL fr lc) {M : zM} {r : List (Option Value)} {st : List Value} {pc : Nat} {a0 a1 a2 a3 a4 a5 : Option Value} {x : Int64} (d : decode cc pc = .ok (.lload 6, 2)) (k : VJ G M (pc + 2) (a0 :: a1 :: a2 :: a3 :: a4 :: a5 :: some (.long x) :: r) (.long x :: st)) : VJ G M pc (a0 :: a1 :: a2 :: a3 :: a4 :: a5 :: some (.long x) :: r) st := by
  obtain ⟨sd, E, P, l, p, e, R, s, m, args, below, meth, c⟩ := G
  obtain ⟨hx, hb, hr, hml, hown, hts, hK, hN, hlk, hR⟩ := C
  intro H locs ls hP hD hS hl
  refine lv_lload hx hb d (hl.2.2 6 _ rfl) ?_
  exact k H locs ls hP hD hS hl
theorem r_lld7 {G : zG} {cc : ByteArray} {own : String} {ret : Option FieldType} {nL fr lc : Nat} (C : zC G cc own ret nL fr lc) {M : zM} {r : List (Option Value)} {st : List Value} {pc : Nat} {a0 a1 a2 a3 a4 a5 a6 : Option Value} {x : Int64} (d : decode cc pc = .ok (.lload 7, 2)) (k : VJ G M (pc + 2) (a0 :: a1 :: a2 :: a3 :: a4 :: a5 :: a6 :: some (.long x) :: r) (.long x :: st)) : VJ G M pc (a0 :: a1 :: a2 :: a3 :: a4 :: a5 :: a6 :: some (.long x) :: r) st := by
  obtain ⟨sd, E, P, l, p, e, R, s, m, args, below, meth, c⟩ := G
  obtain ⟨hx, hb, hr, hml, hown, hts, hK, hN, hlk, hR⟩ := C
  intro H locs ls hP hD hS hl
  refine lv_lload hx hb d (hl.2.2 7 _ rfl) ?_
  exact k H locs ls hP hD hS hl
theorem r_lld8 {G : zG} {cc : ByteArray} {own : String} {ret : Option FieldType} {nL fr lc : Nat} (C : zC G cc own ret nL fr lc) {M : zM} {r : List (Option Value)} {st : List Value} {pc : Nat} {a0 a1 a2 a3 a4 a5 a6 a7 : Option Value} {x : Int64} (d : decode cc pc = .ok (.lload 8, 2)) (k : VJ G M (pc + 2) (a0 :: a1 :: a2 :: a3 :: a4 :: a5 :: a6 :: a7 :: some (.long x) :: r) (.long x :: st)) : VJ G M pc (a0 :: a1 :: a2 :: a3 :: a4 :: a5 :: a6 :: a7 :: some (.long x) :: r) st := by
  obtain ⟨sd, E, P, l, p, e, R, s, m, args, below, meth, c⟩ := G
  obtain ⟨hx, hb, hr, hml, hown, hts, hK, hN, hlk, hR⟩ := C
  intro H locs ls hP hD hS hl
  refine lv_lload hx hb d (hl.2.2 8 _ rfl) ?_
  exact k H locs ls hP hD hS hl
theorem r_lld9 {G : zG} {cc : ByteArray} {own : String} {ret : Option FieldType} {nL fr lc : Nat} (C : zC G cc own ret nL fr lc) {M : zM} {r : List (Option Value)} {st : List Value} {pc : Nat} {a0 a1 a2 a3 a4 a5 a6 a7 a8 : Option Value} {x : Int64} (d : decode cc pc = .ok (.lload 9, 2)) (k : VJ G M (pc + 2) (a0 :: a1 :: a2 :: a3 :: a4 :: a5 :: a6 :: a7 :: a8 :: some (.long x) :: r) (.long x :: st)) : VJ G M pc (a0 :: a1 :: a2 :: a3 :: a4 :: a5 :: a6 :: a7 :: a8 :: some (.long x) :: r) st := by
  obtain ⟨sd, E, P, l, p, e, R, s, m, args, below, meth, c⟩ := G
  obtain ⟨hx, hb, hr, hml, hown, hts, hK, hN, hlk, hR⟩ := C
  intro H locs ls hP hD hS hl
  refine lv_lload hx hb d (hl.2.2 9 _ rfl) ?_
  exact k H locs ls hP hD hS hl
theorem r_lld10 {G : zG} {cc : ByteArray} {own : String} {ret : Option FieldType} {nL fr lc : Nat} (C : zC G cc own ret nL fr lc) {M : zM} {r : List (Option Value)} {st : List Value} {pc : Nat} {a0 a1 a2 a3 a4 a5 a6 a7 a8 a9 : Option Value} {x : Int64} (d : decode cc pc = .ok (.lload 10, 2)) (k : VJ G M (pc + 2) (a0 :: a1 :: a2 :: a3 :: a4 :: a5 :: a6 :: a7 :: a8 :: a9 :: some (.long x) :: r) (.long x :: st)) : VJ G M pc (a0 :: a1 :: a2 :: a3 :: a4 :: a5 :: a6 :: a7 :: a8 :: a9 :: some (.long x) :: r) st := by
  obtain ⟨sd, E, P, l, p, e, R, s, m, args, below, meth, c⟩ := G
  obtain ⟨hx, hb, hr, hml, hown, hts, hK, hN, hlk, hR⟩ := C
  intro H locs ls hP hD hS hl
  refine lv_lload hx hb d (hl.2.2 10 _ rfl) ?_
  exact k H locs ls hP hD hS hl
theorem r_lld11 {G : zG} {cc : ByteArray} {own : String} {ret : Option FieldType} {nL fr lc : Nat} (C : zC G cc own ret nL fr lc) {M : zM} {r : List (Option Value)} {st : List Value} {pc : Nat} {a0 a1 a2 a3 a4 a5 a6 a7 a8 a9 a10 : Option Value} {x : Int64} (d : decode cc pc = .ok (.lload 11, 2)) (k : VJ G M (pc + 2) (a0 :: a1 :: a2 :: a3 :: a4 :: a5 :: a6 :: a7 :: a8 :: a9 :: a10 :: some (.long x) :: r) (.long x :: st)) : VJ G M pc (a0 :: a1 :: a2 :: a3 :: a4 :: a5 :: a6 :: a7 :: a8 :: a9 :: a10 :: some (.long x) :: r) st := by
  obtain ⟨sd, E, P, l, p, e, R, s, m, args, below, meth, c⟩ := G
  obtain ⟨hx, hb, hr, hml, hown, hts, hK, hN, hlk, hR⟩ := C
  intro H locs ls hP hD hS hl
  refine lv_lload hx hb d (hl.2.2 11 _ rfl) ?_
  exact k H locs ls hP hD hS hl
theorem r_lld12 {G : zG} {cc : ByteArray} {own : String} {ret : Option FieldType} {nL fr lc : Nat} (C : zC G cc own ret nL fr lc) {M : zM} {r : List (Option Value)} {st : List Value} {pc : Nat} {a0 a1 a2 a3 a4 a5 a6 a7 a8 a9 a10 a11 : Option Value} {x : Int64} (d : decode cc pc = .ok (.lload 12, 2)) (k : VJ G M (pc + 2) (a0 :: a1 :: a2 :: a3 :: a4 :: a5 :: a6 :: a7 :: a8 :: a9 :: a10 :: a11 :: some (.long x) :: r) (.long x :: st)) : VJ G M pc (a0 :: a1 :: a2 :: a3 :: a4 :: a5 :: a6 :: a7 :: a8 :: a9 :: a10 :: a11 :: some (.long x) :: r) st := by
  obtain ⟨sd, E, P, l, p, e, R, s, m, args, below, meth, c⟩ := G
  obtain ⟨hx, hb, hr, hml, hown, hts, hK, hN, hlk, hR⟩ := C
  intro H locs ls hP hD hS hl
  refine lv_lload hx hb d (hl.2.2 12 _ rfl) ?_
  exact k H locs ls hP hD hS hl
theorem r_ald0 {G : zG} {cc : ByteArray} {own : String} {ret : Option FieldType} {nL fr lc : Nat} (C : zC G cc own ret nL fr lc) {M : zM} {r : List (Option Value)} {st : List Value} {pc : Nat} {x : Nat} (d : decode cc pc = .ok (.aload_n 0, 1)) (k : VJ G M (pc + 1) (some (.ref x) :: r) (.ref x :: st)) : VJ G M pc (some (.ref x) :: r) st := by
  obtain ⟨sd, E, P, l, p, e, R, s, m, args, below, meth, c⟩ := G
  obtain ⟨hx, hb, hr, hml, hown, hts, hK, hN, hlk, hR⟩ := C
  intro H locs ls hP hD hS hl
  refine lv_aload_n hx hb d rfl (hl.2.2 0 _ rfl) ?_
  exact k H locs ls hP hD hS hl
theorem r_ald1 {G : zG} {cc : ByteArray} {own : String} {ret : Option FieldType} {nL fr lc : Nat} (C : zC G cc own ret nL fr lc) {M : zM} {r : List (Option Value)} {st : List Value} {pc : Nat} {a0 : Option Value} {x : Nat} (d : decode cc pc = .ok (.aload_n 1, 1)) (k : VJ G M (pc + 1) (a0 :: some (.ref x) :: r) (.ref x :: st)) : VJ G M pc (a0 :: some (.ref x) :: r) st := by
  obtain ⟨sd, E, P, l, p, e, R, s, m, args, below, meth, c⟩ := G
  obtain ⟨hx, hb, hr, hml, hown, hts, hK, hN, hlk, hR⟩ := C
  intro H locs ls hP hD hS hl
  refine lv_aload_n hx hb d rfl (hl.2.2 1 _ rfl) ?_
  exact k H locs ls hP hD hS hl
theorem r_ald2 {G : zG} {cc : ByteArray} {own : String} {ret : Option FieldType} {nL fr lc : Nat} (C : zC G cc own ret nL fr lc) {M : zM} {r : List (Option Value)} {st : List Value} {pc : Nat} {a0 a1 : Option Value} {x : Nat} (d : decode cc pc = .ok (.aload_n 2, 1)) (k : VJ G M (pc + 1) (a0 :: a1 :: some (.ref x) :: r) (.ref x :: st)) : VJ G M pc (a0 :: a1 :: some (.ref x) :: r) st := by
  obtain ⟨sd, E, P, l, p, e, R, s, m, args, below, meth, c⟩ := G
  obtain ⟨hx, hb, hr, hml, hown, hts, hK, hN, hlk, hR⟩ := C
  intro H locs ls hP hD hS hl
  refine lv_aload_n hx hb d rfl (hl.2.2 2 _ rfl) ?_
  exact k H locs ls hP hD hS hl
theorem r_ald3 {G : zG} {cc : ByteArray} {own : String} {ret : Option FieldType} {nL fr lc : Nat} (C : zC G cc own ret nL fr lc) {M : zM} {r : List (Option Value)} {st : List Value} {pc : Nat} {a0 a1 a2 : Option Value} {x : Nat} (d : decode cc pc = .ok (.aload_n 3, 1)) (k : VJ G M (pc + 1) (a0 :: a1 :: a2 :: some (.ref x) :: r) (.ref x :: st)) : VJ G M pc (a0 :: a1 :: a2 :: some (.ref x) :: r) st := by
  obtain ⟨sd, E, P, l, p, e, R, s, m, args, below, meth, c⟩ := G
  obtain ⟨hx, hb, hr, hml, hown, hts, hK, hN, hlk, hR⟩ := C
  intro H locs ls hP hD hS hl
  refine lv_aload_n hx hb d rfl (hl.2.2 3 _ rfl) ?_
  exact k H locs ls hP hD hS hl
theorem r_ald4 {G : zG} {cc : ByteArray} {own : String} {ret : Option FieldType} {nL fr lc : Nat} (C : zC G cc own ret nL fr lc) {M : zM} {r : List (Option Value)} {st : List Value} {pc : Nat} {a0 a1 a2 a3 : Option Value} {x : Nat} (d : decode cc pc = .ok (.aload 4, 2)) (k : VJ G M (pc + 2) (a0 :: a1 :: a2 :: a3 :: some (.ref x) :: r) (.ref x :: st)) : VJ G M pc (a0 :: a1 :: a2 :: a3 :: some (.ref x) :: r) st := by
  obtain ⟨sd, E, P, l, p, e, R, s, m, args, below, meth, c⟩ := G
  obtain ⟨hx, hb, hr, hml, hown, hts, hK, hN, hlk, hR⟩ := C
  intro H locs ls hP hD hS hl
  refine lv_aload hx hb d (hl.2.2 4 _ rfl) ?_
  exact k H locs ls hP hD hS hl
theorem r_ald5 {G : zG} {cc : ByteArray} {own : String} {ret : Option FieldType} {nL fr lc : Nat} (C : zC G cc own ret nL fr lc) {M : zM} {r : List (Option Value)} {st : List Value} {pc : Nat} {a0 a1 a2 a3 a4 : Option Value} {x : Nat} (d : decode cc pc = .ok (.aload 5, 2)) (k : VJ G M (pc + 2) (a0 :: a1 :: a2 :: a3 :: a4 :: some (.ref x) :: r) (.ref x :: st)) : VJ G M pc (a0 :: a1 :: a2 :: a3 :: a4 :: some (.ref x) :: r) st := by
  obtain ⟨sd, E, P, l, p, e, R, s, m, args, below, meth, c⟩ := G
  obtain ⟨hx, hb, hr, hml, hown, hts, hK, hN, hlk, hR⟩ := C
  intro H locs ls hP hD hS hl
  refine lv_aload hx hb d (hl.2.2 5 _ rfl) ?_
  exact k H locs ls hP hD hS hl
theorem r_ald6 {G : zG} {cc : ByteArray} {own : String} {ret : Option FieldType} {nL fr lc : Nat} (C : zC G cc own ret nL fr lc) {M : zM} {r : List (Option Value)} {st : List Value} {pc : Nat} {a0 a1 a2 a3 a4 a5 : Option Value} {x : Nat} (d : decode cc pc = .ok (.aload 6, 2)) (k : VJ G M (pc + 2) (a0 :: a1 :: a2 :: a3 :: a4 :: a5 :: some (.ref x) :: r) (.ref x :: st)) : VJ G M pc (a0 :: a1 :: a2 :: a3 :: a4 :: a5 :: some (.ref x) :: r) st := by
  obtain ⟨sd, E, P, l, p, e, R, s, m, args, below, meth, c⟩ := G
  obtain ⟨hx, hb, hr, hml, hown, hts, hK, hN, hlk, hR⟩ := C
  intro H locs ls hP hD hS hl
  refine lv_aload hx hb d (hl.2.2 6 _ rfl) ?_
  exact k H locs ls hP hD hS hl
theorem r_ald7 {G : zG} {cc : ByteArray} {own : String} {ret : Option FieldType} {nL fr lc : Nat} (C : zC G cc own ret nL fr lc) {M : zM} {r : List (Option Value)} {st : List Value} {pc : Nat} {a0 a1 a2 a3 a4 a5 a6 : Option Value} {x : Nat} (d : decode cc pc = .ok (.aload 7, 2)) (k : VJ G M (pc + 2) (a0 :: a1 :: a2 :: a3 :: a4 :: a5 :: a6 :: some (.ref x) :: r) (.ref x :: st)) : VJ G M pc (a0 :: a1 :: a2 :: a3 :: a4 :: a5 :: a6 :: some (.ref x) :: r) st := by
  obtain ⟨sd, E, P, l, p, e, R, s, m, args, below, meth, c⟩ := G
  obtain ⟨hx, hb, hr, hml, hown, hts, hK, hN, hlk, hR⟩ := C
  intro H locs ls hP hD hS hl
  refine lv_aload hx hb d (hl.2.2 7 _ rfl) ?_
  exact k H locs ls hP hD hS hl
theorem r_ald8 {G : zG} {cc : ByteArray} {own : String} {ret : Option FieldType} {nL fr lc : Nat} (C : zC G cc own ret nL fr lc) {M : zM} {r : List (Option Value)} {st : List Value} {pc : Nat} {a0 a1 a2 a3 a4 a5 a6 a7 : Option Value} {x : Nat} (d : decode cc pc = .ok (.aload 8, 2)) (k : VJ G M (pc + 2) (a0 :: a1 :: a2 :: a3 :: a4 :: a5 :: a6 :: a7 :: some (.ref x) :: r) (.ref x :: st)) : VJ G M pc (a0 :: a1 :: a2 :: a3 :: a4 :: a5 :: a6 :: a7 :: some (.ref x) :: r) st := by
  obtain ⟨sd, E, P, l, p, e, R, s, m, args, below, meth, c⟩ := G
  obtain ⟨hx, hb, hr, hml, hown, hts, hK, hN, hlk, hR⟩ := C
  intro H locs ls hP hD hS hl
  refine lv_aload hx hb d (hl.2.2 8 _ rfl) ?_
  exact k H locs ls hP hD hS hl
theorem r_ald9 {G : zG} {cc : ByteArray} {own : String} {ret : Option FieldType} {nL fr lc : Nat} (C : zC G cc own ret nL fr lc) {M : zM} {r : List (Option Value)} {st : List Value} {pc : Nat} {a0 a1 a2 a3 a4 a5 a6 a7 a8 : Option Value} {x : Nat} (d : decode cc pc = .ok (.aload 9, 2)) (k : VJ G M (pc + 2) (a0 :: a1 :: a2 :: a3 :: a4 :: a5 :: a6 :: a7 :: a8 :: some (.ref x) :: r) (.ref x :: st)) : VJ G M pc (a0 :: a1 :: a2 :: a3 :: a4 :: a5 :: a6 :: a7 :: a8 :: some (.ref x) :: r) st := by
  obtain ⟨sd, E, P, l, p, e, R, s, m, args, below, meth, c⟩ := G
  obtain ⟨hx, hb, hr, hml, hown, hts, hK, hN, hlk, hR⟩ := C
  intro H locs ls hP hD hS hl
  refine lv_aload hx hb d (hl.2.2 9 _ rfl) ?_
  exact k H locs ls hP hD hS hl
theorem r_ald10 {G : zG} {cc : ByteArray} {own : String} {ret : Option FieldType} {nL fr lc : Nat} (C : zC G cc own ret nL fr lc) {M : zM} {r : List (Option Value)} {st : List Value} {pc : Nat} {a0 a1 a2 a3 a4 a5 a6 a7 a8 a9 : Option Value} {x : Nat} (d : decode cc pc = .ok (.aload 10, 2)) (k : VJ G M (pc + 2) (a0 :: a1 :: a2 :: a3 :: a4 :: a5 :: a6 :: a7 :: a8 :: a9 :: some (.ref x) :: r) (.ref x :: st)) : VJ G M pc (a0 :: a1 :: a2 :: a3 :: a4 :: a5 :: a6 :: a7 :: a8 :: a9 :: some (.ref x) :: r) st := by
  obtain ⟨sd, E, P, l, p, e, R, s, m, args, below, meth, c⟩ := G
  obtain ⟨hx, hb, hr, hml, hown, hts, hK, hN, hlk, hR⟩ := C
  intro H locs ls hP hD hS hl
  refine lv_aload hx hb d (hl.2.2 10 _ rfl) ?_
  exact k H locs ls hP hD hS hl
theorem r_ald11 {G : zG} {cc : ByteArray} {own : String} {ret : Option FieldType} {nL fr lc : Nat} (C : zC G cc own ret nL fr lc) {M : zM} {r : List (Option Value)} {st : List Value} {pc : Nat} {a0 a1 a2 a3 a4 a5 a6 a7 a8 a9 a10 : Option Value} {x : Nat} (d : decode cc pc = .ok (.aload 11, 2)) (k : VJ G M (pc + 2) (a0 :: a1 :: a2 :: a3 :: a4 :: a5 :: a6 :: a7 :: a8 :: a9 :: a10 :: some (.ref x) :: r) (.ref x :: st)) : VJ G M pc (a0 :: a1 :: a2 :: a3 :: a4 :: a5 :: a6 :: a7 :: a8 :: a9 :: a10 :: some (.ref x) :: r) st := by
  obtain ⟨sd, E, P, l, p, e, R, s, m, args, below, meth, c⟩ := G
  obtain ⟨hx, hb, hr, hml, hown, hts, hK, hN, hlk, hR⟩ := C
  intro H locs ls hP hD hS hl
  refine lv_aload hx hb d (hl.2.2 11 _ rfl) ?_
  exact k H locs ls hP hD hS hl
theorem r_ald12 {G : zG} {cc : ByteArray} {own : String} {ret : Option FieldType} {nL fr lc : Nat} (C : zC G cc own ret nL fr lc) {M : zM} {r : List (Option Value)} {st : List Value} {pc : Nat} {a0 a1 a2 a3 a4 a5 a6 a7 a8 a9 a10 a11 : Option Value} {x : Nat} (d : decode cc pc = .ok (.aload 12, 2)) (k : VJ G M (pc + 2) (a0 :: a1 :: a2 :: a3 :: a4 :: a5 :: a6 :: a7 :: a8 :: a9 :: a10 :: a11 :: some (.ref x) :: r) (.ref x :: st)) : VJ G M pc (a0 :: a1 :: a2 :: a3 :: a4 :: a5 :: a6 :: a7 :: a8 :: a9 :: a10 :: a11 :: some (.ref x) :: r) st := by
  obtain ⟨sd, E, P, l, p, e, R, s, m, args, below, meth, c⟩ := G
  obtain ⟨hx, hb, hr, hml, hown, hts, hK, hN, hlk, hR⟩ := C
  intro H locs ls hP hD hS hl
  refine lv_aload hx hb d (hl.2.2 12 _ rfl) ?_
  exact k H locs ls hP hD hS hl
theorem lh_c1 {lo : List (Option Value)} {i : Nat} (h : i = 0 ∨ ∃ (j : Nat) (q : Option Value), j + 1 = i ∧ lo[j]? = some q ∧ zc1 q = true) : ∀ (j : Nat) (w : Value), j + 1 = i → lo[j]? = some (some w) → w.category = 1 := by
  intro j w hj hw
  rcases h with h | ⟨j2, q, e1, e2, e3⟩
  · omega
  · have : j2 = j := by omega
    subst this
    rw [hw] at e2
    cases e2
    exact zc1_spec e3 rfl
theorem r_ist0 {G : zG} {cc : ByteArray} {own : String} {ret : Option FieldType} {nL fr lc : Nat} (C : zC G cc own ret nL fr lc) {M : zM} {r : List (Option Value)} {st : List Value} {pc : Nat} { q0 : Option Value} {x : Int32} (d : decode cc pc = .ok (.istore_n 0, 1)) (k : VJ G M (pc + 1) (some (.int x) :: r) st) : VJ G M pc (q0 :: r) (.int x :: st) := by
  obtain ⟨sd, E, P, l, p, e, R, s, m, args, below, meth, c⟩ := G
  obtain ⟨hx, hb, hr, hml, hown, hts, hK, hN, hlk, hR⟩ := C
  intro H locs ls hP hD hS hl
  obtain ⟨ls', e', h'⟩ := lh_store1 (v := .int x) (i := 0) hl (by simp) rfl (lh_c1 (lo := (q0 :: r)) (i := 0) (Or.inl rfl))
  intro T hT X
  obtain ⟨t, a, b⟩ := k H locs ls' hP hD hS h' T hT X
  refine ⟨t, ?_, b⟩
  jvm_step X.here [X.here.top, hx, hb, d, e', Value.isRef]
  exact a
theorem r_ist1 {G : zG} {cc : ByteArray} {own : String} {ret : Option FieldType} {nL fr lc : Nat} (C : zC G cc own ret nL fr lc) {M : zM} {r : List (Option Value)} {st : List Value} {pc : Nat} {a0 q0 : Option Value} {x : Int32} (h1 : zc1 a0 = true) (d : decode cc pc = .ok (.istore_n 1, 1)) (k : VJ G M (pc + 1) (a0 :: some (.int x) :: r) st) : VJ G M pc (a0 :: q0 :: r) (.int x :: st) := by
  obtain ⟨sd, E, P, l, p, e, R, s, m, args, below, meth, c⟩ := G
  obtain ⟨hx, hb, hr, hml, hown, hts, hK, hN, hlk, hR⟩ := C
  intro H locs ls hP hD hS hl
  obtain ⟨ls', e', h'⟩ := lh_store1 (v := .int x) (i := 1) hl (by simp) rfl (lh_c1 (lo := (a0 :: q0 :: r)) (i := 1) (Or.inr ⟨0, _, rfl, rfl, h1⟩))
  intro T hT X
  obtain ⟨t, a, b⟩ := k H locs ls' hP hD hS h' T hT X
  refine ⟨t, ?_, b⟩
  jvm_step X.here [X.here.top, hx, hb, d, e', Value.isRef]
  exact a
theorem r_ist2 {G : zG} {cc : ByteArray} {own : String} {ret : Option FieldType} {nL fr lc : Nat} (C : zC G cc own ret nL fr lc) {M : zM} {r : List (Option Value)} {st : List Value} {pc : Nat} {a0 a1 q0 : Option Value} {x : Int32} (h1 : zc1 a1 = true) (d : decode cc pc = .ok (.istore_n 2, 1)) (k : VJ G M (pc + 1) (a0 :: a1 :: some (.int x) :: r) st) : VJ G M pc (a0 :: a1 :: q0 :: r) (.int x :: st) := by
  obtain ⟨sd, E, P, l, p, e, R, s, m, args, below, meth, c⟩ := G
  obtain ⟨hx, hb, hr, hml, hown, hts, hK, hN, hlk, hR⟩ := C
  intro H locs ls hP hD hS hl
  obtain ⟨ls', e', h'⟩ := lh_store1 (v := .int x) (i := 2) hl (by simp) rfl (lh_c1 (lo := (a0 :: a1 :: q0 :: r)) (i := 2) (Or.inr ⟨1, _, rfl, rfl, h1⟩))
  intro T hT X
  obtain ⟨t, a, b⟩ := k H locs ls' hP hD hS h' T hT X
  refine ⟨t, ?_, b⟩
  jvm_step X.here [X.here.top, hx, hb, d, e', Value.isRef]
  exact a
theorem r_ist3 {G : zG} {cc : ByteArray} {own : String} {ret : Option FieldType} {nL fr lc : Nat} (C : zC G cc own ret nL fr lc) {M : zM} {r : List (Option Value)} {st : List Value} {pc : Nat} {a0 a1 a2 q0 : Option Value} {x : Int32} (h1 : zc1 a2 = true) (d : decode cc pc = .ok (.istore_n 3, 1)) (k : VJ G M (pc + 1) (a0 :: a1 :: a2 :: some (.int x) :: r) st) : VJ G M pc (a0 :: a1 :: a2 :: q0 :: r) (.int x :: st) := by
  obtain ⟨sd, E, P, l, p, e, R, s, m, args, below, meth, c⟩ := G
  obtain ⟨hx, hb, hr, hml, hown, hts, hK, hN, hlk, hR⟩ := C
  intro H locs ls hP hD hS hl
  obtain ⟨ls', e', h'⟩ := lh_store1 (v := .int x) (i := 3) hl (by simp) rfl (lh_c1 (lo := (a0 :: a1 :: a2 :: q0 :: r)) (i := 3) (Or.inr ⟨2, _, rfl, rfl, h1⟩))
  intro T hT X
  obtain ⟨t, a, b⟩ := k H locs ls' hP hD hS h' T hT X
  refine ⟨t, ?_, b⟩
  jvm_step X.here [X.here.top, hx, hb, d, e', Value.isRef]
  exact a
theorem r_ist4 {G : zG} {cc : ByteArray} {own : String} {ret : Option FieldType} {nL fr lc : Nat} (C : zC G cc own ret nL fr lc) {M : zM} {r : List (Option Value)} {st : List Value} {pc : Nat} {a0 a1 a2 a3 q0 : Option Value} {x : Int32} (h1 : zc1 a3 = true) (d : decode cc pc = .ok (.istore 4, 2)) (k : VJ G M (pc + 2) (a0 :: a1 :: a2 :: a3 :: some (.int x) :: r) st) : VJ G M pc (a0 :: a1 :: a2 :: a3 :: q0 :: r) (.int x :: st) := by
  obtain ⟨sd, E, P, l, p, e, R, s, m, args, below, meth, c⟩ := G
  obtain ⟨hx, hb, hr, hml, hown, hts, hK, hN, hlk, hR⟩ := C
  intro H locs ls hP hD hS hl
  obtain ⟨ls', e', h'⟩ := lh_store1 (v := .int x) (i := 4) hl (by simp) rfl (lh_c1 (lo := (a0 :: a1 :: a2 :: a3 :: q0 :: r)) (i := 4) (Or.inr ⟨3, _, rfl, rfl, h1⟩))
  intro T hT X
  obtain ⟨t, a, b⟩ := k H locs ls' hP hD hS h' T hT X
  refine ⟨t, ?_, b⟩
  jvm_step X.here [X.here.top, hx, hb, d, e', Value.isRef]
  exact a
theorem r_ist5 {G : zG} {cc : ByteArray} {own : String} {ret : Option FieldType} {nL fr lc : Nat} (C : zC G cc own ret nL fr lc) {M : zM} {r : List (Option Value)} {st : List Value} {pc : Nat} {a0 a1 a2 a3 a4 q0 : Option Value} {x : Int32} (h1 : zc1 a4 = true) (d : decode cc pc = .ok (.istore 5, 2)) (k : VJ G M (pc + 2) (a0 :: a1 :: a2 :: a3 :: a4 :: some (.int x) :: r) st) : VJ G M pc (a0 :: a1 :: a2 :: a3 :: a4 :: q0 :: r) (.int x :: st) := by
  obtain ⟨sd, E, P, l, p, e, R, s, m, args, below, meth, c⟩ := G
  obtain ⟨hx, hb, hr, hml, hown, hts, hK, hN, hlk, hR⟩ := C
  intro H locs ls hP hD hS hl
  obtain ⟨ls', e', h'⟩ := lh_store1 (v := .int x) (i := 5) hl (by simp) rfl (lh_c1 (lo := (a0 :: a1 :: a2 :: a3 :: a4 :: q0 :: r)) (i := 5) (Or.inr ⟨4, _, rfl, rfl, h1⟩))
  intro T hT X
  obtain ⟨t, a, b⟩ := k H locs ls' hP hD hS h' T hT X
  refine ⟨t, ?_, b⟩
  jvm_step X.here [X.here.top, hx, hb, d, e', Value.isRef]
  exact a
theorem r_ist6 {G : zG} {cc : ByteArray} {own : String} {ret : Option FieldType} {nL fr lc : Nat} (C : zC G cc own ret nL fr lc) {M : zM} {r : List (Option Value)} {st : List Value} {pc : Nat} {a0 a1 a2 a3 a4 a5 q0 : Option Value} {x : Int32} (h1 : zc1 a5 = true) (d : decode cc pc = .ok (.istore 6, 2)) (k : VJ G M (pc + 2) (a0 :: a1 :: a2 :: a3 :: a4 :: a5 :: some (.int x) :: r) st) : VJ G M pc (a0 :: a1 :: a2 :: a3 :: a4 :: a5 :: q0 :: r) (.int x :: st) := by
  obtain ⟨sd, E, P, l, p, e, R, s, m, args, below, meth, c⟩ := G
  obtain ⟨hx, hb, hr, hml, hown, hts, hK, hN, hlk, hR⟩ := C
  intro H locs ls hP hD hS hl
  obtain ⟨ls', e', h'⟩ := lh_store1 (v := .int x) (i := 6) hl (by simp) rfl (lh_c1 (lo := (a0 :: a1 :: a2 :: a3 :: a4 :: a5 :: q0 :: r)) (i := 6) (Or.inr ⟨5, _, rfl, rfl, h1⟩))
  intro T hT X
  obtain ⟨t, a, b⟩ := k H locs ls' hP hD hS h' T hT X
  refine ⟨t, ?_, b⟩
  jvm_step X.here [X.here.top, hx, hb, d, e', Value.isRef]
  exact a
theorem r_ist7 {G : zG} {cc : ByteArray} {own : String} {ret : Option FieldType} {nL fr lc : Nat} (C : zC G cc own ret nL fr lc) {M : zM} {r : List (Option Value)} {st : List Value} {pc : Nat} {a0 a1 a2 a3 a4 a5 a6 q0 : Option Value} {x : Int32} (h1 : zc1 a6 = true) (d : decode cc pc = .ok (.istore 7, 2)) (k : VJ G M (pc + 2) (a0 :: a1 :: a2 :: a3 :: a4 :: a5 :: a6 :: some (.int x) :: r) st) : VJ G M pc (a0 :: a1 :: a2 :: a3 :: a4 :: a5 :: a6 :: q0 :: r) (.int x :: st) := by
  obtain ⟨sd, E, P, l, p, e, R, s, m, args, below, meth, c⟩ := G
  obtain ⟨hx, hb, hr, hml, hown, hts, hK, hN, hlk, hR⟩ := C
  intro H locs ls hP hD hS hl
  obtain ⟨ls', e', h'⟩ := lh_store1 (v := .int x) (i := 7) hl (by simp) rfl (lh_c1 (lo := (a0 :: a1 :: a2 :: a3 :: a4 :: a5 :: a6 :: q0 :: r)) (i := 7) (Or.inr ⟨6, _, rfl, rfl, h1⟩))
  intro T hT X
  obtain ⟨t, a, b⟩ := k H locs ls' hP hD hS h' T hT X
  refine ⟨t, ?_, b⟩
  jvm_step X.here [X.here.top, hx, hb, d, e', Value.isRef]
  exact a
theorem r_ist8 {G : zG} {cc : ByteArray} {own : String} {ret : Option FieldType} {nL fr lc : Nat} (C : zC G cc own ret nL fr lc) {M : zM} {r : List (Option Value)} {st : List Value} {pc : Nat} {a0 a1 a2 a3 a4 a5 a6 a7 q0 : Option Value} {x : Int32} (h1 : zc1 a7 = true) (d : decode cc pc = .ok (.istore 8, 2)) (k : VJ G M (pc + 2) (a0 :: a1 :: a2 :: a3 :: a4 :: a5 :: a6 :: a7 :: some (.int x) :: r) st) : VJ G M pc (a0 :: a1 :: a2 :: a3 :: a4 :: a5 :: a6 :: a7 :: q0 :: r) (.int x :: st) := by
  obtain ⟨sd, E, P, l, p, e, R, s, m, args, below, meth, c⟩ := G
  obtain ⟨hx, hb, hr, hml, hown, hts, hK, hN, hlk, hR⟩ := C
  intro H locs ls hP hD hS hl
  obtain ⟨ls', e', h'⟩ := lh_store1 (v := .int x) (i := 8) hl (by simp) rfl (lh_c1 (lo := (a0 :: a1 :: a2 :: a3 :: a4 :: a5 :: a6 :: a7 :: q0 :: r)) (i := 8) (Or.inr ⟨7, _, rfl, rfl, h1⟩))
  intro T hT X
  obtain ⟨t, a, b⟩ := k H locs ls' hP hD hS h' T hT X
  refine ⟨t, ?_, b⟩
  jvm_step X.here [X.here.top, hx, hb, d, e', Value.isRef]
  exact a
theorem r_ist9 {G : zG} {cc : ByteArray} {own : String} {ret : Option FieldType} {nL fr lc : Nat} (C : zC G cc own ret nL fr lc) {M : zM} {r : List (Option Value)} {st : List Value} {pc : Nat} {a0 a1 a2 a3 a4 a5 a6 a7 a8 q0 : Option Value} {x : Int32} (h1 : zc1 a8 = true) (d : decode cc pc = .ok (.istore 9, 2)) (k : VJ G M (pc + 2) (a0 :: a1 :: a2 :: a3 :: a4 :: a5 :: a6 :: a7 :: a8 :: some (.int x) :: r) st) : VJ G M pc (a0 :: a1 :: a2 :: a3 :: a4 :: a5 :: a6 :: a7 :: a8 :: q0 :: r) (.int x :: st) := by
  obtain ⟨sd, E, P, l, p, e, R, s, m, args, below, meth, c⟩ := G
  obtain ⟨hx, hb, hr, hml, hown, hts, hK, hN, hlk, hR⟩ := C
  intro H locs ls hP hD hS hl
  obtain ⟨ls', e', h'⟩ := lh_store1 (v := .int x) (i := 9) hl (by simp) rfl (lh_c1 (lo := (a0 :: a1 :: a2 :: a3 :: a4 :: a5 :: a6 :: a7 :: a8 :: q0 :: r)) (i := 9) (Or.inr ⟨8, _, rfl, rfl, h1⟩))
  intro T hT X
  obtain ⟨t, a, b⟩ := k H locs ls' hP hD hS h' T hT X
  refine ⟨t, ?_, b⟩
  jvm_step X.here [X.here.top, hx, hb, d, e', Value.isRef]
  exact a
theorem r_ist10 {G : zG} {cc : ByteArray} {own : String} {ret : Option FieldType} {nL fr lc : Nat} (C : zC G cc own ret nL fr lc) {M : zM} {r : List (Option Value)} {st : List Value} {pc : Nat} {a0 a1 a2 a3 a4 a5 a6 a7 a8 a9 q0 : Option Value} {x : Int32} (h1 : zc1 a9 = true) (d : decode cc pc = .ok (.istore 10, 2)) (k : VJ G M (pc + 2) (a0 :: a1 :: a2 :: a3 :: a4 :: a5 :: a6 :: a7 :: a8 :: a9 :: some (.int x) :: r) st) : VJ G M pc (a0 :: a1 :: a2 :: a3 :: a4 :: a5 :: a6 :: a7 :: a8 :: a9 :: q0 :: r) (.int x :: st) := by
  obtain ⟨sd, E, P, l, p, e, R, s, m, args, below, meth, c⟩ := G
  obtain ⟨hx, hb, hr, hml, hown, hts, hK, hN, hlk, hR⟩ := C
  intro H locs ls hP hD hS hl
  obtain ⟨ls', e', h'⟩ := lh_store1 (v := .int x) (i := 10) hl (by simp) rfl (lh_c1 (lo := (a0 :: a1 :: a2 :: a3 :: a4 :: a5 :: a6 :: a7 :: a8 :: a9 :: q0 :: r)) (i := 10) (Or.inr ⟨9, _, rfl, rfl, h1⟩))
  intro T hT X
  obtain ⟨t, a, b⟩ := k H locs ls' hP hD hS h' T hT X
  refine ⟨t, ?_, b⟩
  jvm_step X.here [X.here.top, hx, hb, d, e', Value.isRef]
  exact a
theorem r_ist11 {G : zG} {cc : ByteArray} {own : String} {ret : Option FieldType} {nL fr lc : Nat} (C : zC G cc own ret nL fr lc) {M : zM} {r : List (Option Value)} {st : List Value} {pc : Nat} {a0 a1 a2 a3 a4 a5 a6 a7 a8 a9 a10 q0 : Option Value} {x : Int32} (h1 : zc1 a10 = true) (d : decode cc pc = .ok (.istore 11, 2)) (k : VJ G M (pc + 2) (a0 :: a1 :: a2 :: a3 :: a4 :: a5 :: a6 :: a7 :: a8 :: a9 :: a10 :: some (.int x) :: r) st) : VJ G M pc (a0 :: a1 :: a2 :: a3 :: a4 :: a5 :: a6 :: a7 :: a8 :: a9 :: a10 :: q0 :: r) (.int x :: st) := by
  obtain ⟨sd, E, P, l, p, e, R, s, m, args, below, meth, c⟩ := G
  obtain ⟨hx, hb, hr, hml, hown, hts, hK, hN, hlk, hR⟩ := C
  intro H locs ls hP hD hS hl
  obtain ⟨ls', e', h'⟩ := lh_store1 (v := .int x) (i := 11) hl (by simp) rfl (lh_c1 (lo := (a0 :: a1 :: a2 :: a3 :: a4 :: a5 :: a6 :: a7 :: a8 :: a9 :: a10 :: q0 :: r)) (i := 11) (Or.inr ⟨10, _, rfl, rfl, h1⟩))
  intro T hT X
  obtain ⟨t, a, b⟩ := k H locs ls' hP hD hS h' T hT X
  refine ⟨t, ?_, b⟩
  jvm_step X.here [X.here.top, hx, hb, d, e', Value.isRef]
  exact a
theorem r_ist12 {G : zG} {cc : ByteArray} {own : String} {ret : Option FieldType} {nL fr lc : Nat} (C : zC G cc own ret nL fr lc) {M : zM} {r : List (Option Value)} {st : List Value} {pc : Nat} {a0 a1 a2 a3 a4 a5 a6 a7 a8 a9 a10 a11 q0 : Option Value} {x : Int32} (h1 : zc1 a11 = true) (d : decode cc pc = .ok (.istore 12, 2)) (k : VJ G M (pc + 2) (a0 :: a1 :: a2 :: a3 :: a4 :: a5 :: a6 :: a7 :: a8 :: a9 :: a10 :: a11 :: some (.int x) :: r) st) : VJ G M pc (a0 :: a1 :: a2 :: a3 :: a4 :: a5 :: a6 :: a7 :: a8 :: a9 :: a10 :: a11 :: q0 :: r) (.int x :: st) := by
  obtain ⟨sd, E, P, l, p, e, R, s, m, args, below, meth, c⟩ := G
  obtain ⟨hx, hb, hr, hml, hown, hts, hK, hN, hlk, hR⟩ := C
  intro H locs ls hP hD hS hl
  obtain ⟨ls', e', h'⟩ := lh_store1 (v := .int x) (i := 12) hl (by simp) rfl (lh_c1 (lo := (a0 :: a1 :: a2 :: a3 :: a4 :: a5 :: a6 :: a7 :: a8 :: a9 :: a10 :: a11 :: q0 :: r)) (i := 12) (Or.inr ⟨11, _, rfl, rfl, h1⟩))
  intro T hT X
  obtain ⟨t, a, b⟩ := k H locs ls' hP hD hS h' T hT X
  refine ⟨t, ?_, b⟩
  jvm_step X.here [X.here.top, hx, hb, d, e', Value.isRef]
  exact a
theorem r_ast0 {G : zG} {cc : ByteArray} {own : String} {ret : Option FieldType} {nL fr lc : Nat} (C : zC G cc own ret nL fr lc) {M : zM} {r : List (Option Value)} {st : List Value} {pc : Nat} { q0 : Option Value} {x : Nat} (d : decode cc pc = .ok (.astore_n 0, 1)) (k : VJ G M (pc + 1) (some (.ref x) :: r) st) : VJ G M pc (q0 :: r) (.ref x :: st) := by
  obtain ⟨sd, E, P, l, p, e, R, s, m, args, below, meth, c⟩ := G
  obtain ⟨hx, hb, hr, hml, hown, hts, hK, hN, hlk, hR⟩ := C
  intro H locs ls hP hD hS hl
  obtain ⟨ls', e', h'⟩ := lh_store1 (v := .ref x) (i := 0) hl (by simp) rfl (lh_c1 (lo := (q0 :: r)) (i := 0) (Or.inl rfl))
  intro T hT X
  obtain ⟨t, a, b⟩ := k H locs ls' hP hD hS h' T hT X
  refine ⟨t, ?_, b⟩
  jvm_step X.here [X.here.top, hx, hb, d, e', Value.isRef]
  exact a
theorem r_ast1 {G : zG} {cc : ByteArray} {own : String} {ret : Option FieldType} {nL fr lc : Nat} (C : zC G cc own ret nL fr lc) {M : zM} {r : List (Option Value)} {st : List Value} {pc : Nat} {a0 q0 : Option Value} {x : Nat} (h1 : zc1 a0 = true) (d : decode cc pc = .ok (.astore_n 1, 1)) (k : VJ G M (pc + 1) (a0 :: some (.ref x) :: r) st) : VJ G M pc (a0 :: q0 :: r) (.ref x :: st) := by
  obtain ⟨sd, E, P, l, p, e, R, s, m, args, below, meth, c⟩ := G
  obtain ⟨hx, hb, hr, hml, hown, hts, hK, hN, hlk, hR⟩ := C
  intro H locs ls hP hD hS hl
  obtain ⟨ls', e', h'⟩ := lh_store1 (v := .ref x) (i := 1) hl (by simp) rfl (lh_c1 (lo := (a0 :: q0 :: r)) (i := 1) (Or.inr ⟨0, _, rfl, rfl, h1⟩))
  intro T hT X
  obtain ⟨t, a, b⟩ := k H locs ls' hP hD hS h' T hT X
  refine ⟨t, ?_, b⟩
  jvm_step X.here [X.here.top, hx, hb, d, e', Value.isRef]
  exact a
theorem r_ast2 {G : zG} {cc : ByteArray} {own : String} {ret : Option FieldType} {nL fr lc : Nat} (C : zC G cc own ret nL fr lc) {M : zM} {r : List (Option Value)} {st : List Value} {pc : Nat} {a0 a1 q0 : Option Value} {x : Nat} (h1 : zc1 a1 = true) (d : decode cc pc = .ok (.astore_n 2, 1)) (k : VJ G M (pc + 1) (a0 :: a1 :: some (.ref x) :: r) st) : VJ G M pc (a0 :: a1 :: q0 :: r) (.ref x :: st) := by
  obtain ⟨sd, E, P, l, p, e, R, s, m, args, below, meth, c⟩ := G
  obtain ⟨hx, hb, hr, hml, hown, hts, hK, hN, hlk, hR⟩ := C
  intro H locs ls hP hD hS hl
  obtain ⟨ls', e', h'⟩ := lh_store1 (v := .ref x) (i := 2) hl (by simp) rfl (lh_c1 (lo := (a0 :: a1 :: q0 :: r)) (i := 2) (Or.inr ⟨1, _, rfl, rfl, h1⟩))
  intro T hT X
  obtain ⟨t, a, b⟩ := k H locs ls' hP hD hS h' T hT X
  refine ⟨t, ?_, b⟩
  jvm_step X.here [X.here.top, hx, hb, d, e', Value.isRef]
  exact a
theorem r_ast3 {G : zG} {cc : ByteArray} {own : String} {ret : Option FieldType} {nL fr lc : Nat} (C : zC G cc own ret nL fr lc) {M : zM} {r : List (Option Value)} {st : List Value} {pc : Nat} {a0 a1 a2 q0 : Option Value} {x : Nat} (h1 : zc1 a2 = true) (d : decode cc pc = .ok (.astore_n 3, 1)) (k : VJ G M (pc + 1) (a0 :: a1 :: a2 :: some (.ref x) :: r) st) : VJ G M pc (a0 :: a1 :: a2 :: q0 :: r) (.ref x :: st) := by
  obtain ⟨sd, E, P, l, p, e, R, s, m, args, below, meth, c⟩ := G
  obtain ⟨hx, hb, hr, hml, hown, hts, hK, hN, hlk, hR⟩ := C
  intro H locs ls hP hD hS hl
  obtain ⟨ls', e', h'⟩ := lh_store1 (v := .ref x) (i := 3) hl (by simp) rfl (lh_c1 (lo := (a0 :: a1 :: a2 :: q0 :: r)) (i := 3) (Or.inr ⟨2, _, rfl, rfl, h1⟩))
  intro T hT X
  obtain ⟨t, a, b⟩ := k H locs ls' hP hD hS h' T hT X
  refine ⟨t, ?_, b⟩
  jvm_step X.here [X.here.top, hx, hb, d, e', Value.isRef]
  exact a
theorem r_ast4 {G : zG} {cc : ByteArray} {own : String} {ret : Option FieldType} {nL fr lc : Nat} (C : zC G cc own ret nL fr lc) {M : zM} {r : List (Option Value)} {st : List Value} {pc : Nat} {a0 a1 a2 a3 q0 : Option Value} {x : Nat} (h1 : zc1 a3 = true) (d : decode cc pc = .ok (.astore 4, 2)) (k : VJ G M (pc + 2) (a0 :: a1 :: a2 :: a3 :: some (.ref x) :: r) st) : VJ G M pc (a0 :: a1 :: a2 :: a3 :: q0 :: r) (.ref x :: st) := by
  obtain ⟨sd, E, P, l, p, e, R, s, m, args, below, meth, c⟩ := G
  obtain ⟨hx, hb, hr, hml, hown, hts, hK, hN, hlk, hR⟩ := C
  intro H locs ls hP hD hS hl
  obtain ⟨ls', e', h'⟩ := lh_store1 (v := .ref x) (i := 4) hl (by simp) rfl (lh_c1 (lo := (a0 :: a1 :: a2 :: a3 :: q0 :: r)) (i := 4) (Or.inr ⟨3, _, rfl, rfl, h1⟩))
  intro T hT X
  obtain ⟨t, a, b⟩ := k H locs ls' hP hD hS h' T hT X
  refine ⟨t, ?_, b⟩
  jvm_step X.here [X.here.top, hx, hb, d, e', Value.isRef]
  exact a
theorem r_ast5 {G : zG} {cc : ByteArray} {own : String} {ret : Option FieldType} {nL fr lc : Nat} (C : zC G cc own ret nL fr lc) {M : zM} {r : List (Option Value)} {st : List Value} {pc : Nat} {a0 a1 a2 a3 a4 q0 : Option Value} {x : Nat} (h1 : zc1 a4 = true) (d : decode cc pc = .ok (.astore 5, 2)) (k : VJ G M (pc + 2) (a0 :: a1 :: a2 :: a3 :: a4 :: some (.ref x) :: r) st) : VJ G M pc (a0 :: a1 :: a2 :: a3 :: a4 :: q0 :: r) (.ref x :: st) := by
  obtain ⟨sd, E, P, l, p, e, R, s, m, args, below, meth, c⟩ := G
  obtain ⟨hx, hb, hr, hml, hown, hts, hK, hN, hlk, hR⟩ := C
  intro H locs ls hP hD hS hl
  obtain ⟨ls', e', h'⟩ := lh_store1 (v := .ref x) (i := 5) hl (by simp) rfl (lh_c1 (lo := (a0 :: a1 :: a2 :: a3 :: a4 :: q0 :: r)) (i := 5) (Or.inr ⟨4, _, rfl, rfl, h1⟩))
  intro T hT X
  obtain ⟨t, a, b⟩ := k H locs ls' hP hD hS h' T hT X
  refine ⟨t, ?_, b⟩
  jvm_step X.here [X.here.top, hx, hb, d, e', Value.isRef]
  exact a
theorem r_ast6 {G : zG} {cc : ByteArray} {own : String} {ret : Option FieldType} {nL fr lc : Nat} (C : zC G cc own ret nL fr lc) {M : zM} {r : List (Option Value)} {st : List Value} {pc : Nat} {a0 a1 a2 a3 a4 a5 q0 : Option Value} {x : Nat} (h1 : zc1 a5 = true) (d : decode cc pc = .ok (.astore 6, 2)) (k : VJ G M (pc + 2) (a0 :: a1 :: a2 :: a3 :: a4 :: a5 :: some (.ref x) :: r) st) : VJ G M pc (a0 :: a1 :: a2 :: a3 :: a4 :: a5 :: q0 :: r) (.ref x :: st) := by
  obtain ⟨sd, E, P, l, p, e, R, s, m, args, below, meth, c⟩ := G
  obtain ⟨hx, hb, hr, hml, hown, hts, hK, hN, hlk, hR⟩ := C
  intro H locs ls hP hD hS hl
  obtain ⟨ls', e', h'⟩ := lh_store1 (v := .ref x) (i := 6) hl (by simp) rfl (lh_c1 (lo := (a0 :: a1 :: a2 :: a3 :: a4 :: a5 :: q0 :: r)) (i := 6) (Or.inr ⟨5, _, rfl, rfl, h1⟩))
  intro T hT X
  obtain ⟨t, a, b⟩ := k H locs ls' hP hD hS h' T hT X
  refine ⟨t, ?_, b⟩
  jvm_step X.here [X.here.top, hx, hb, d, e', Value.isRef]
  exact a
theorem r_ast7 {G : zG} {cc : ByteArray} {own : String} {ret : Option FieldType} {nL fr lc : Nat} (C : zC G cc own ret nL fr lc) {M : zM} {r : List (Option Value)} {st : List Value} {pc : Nat} {a0 a1 a2 a3 a4 a5 a6 q0 : Option Value} {x : Nat} (h1 : zc1 a6 = true) (d : decode cc pc = .ok (.astore 7, 2)) (k : VJ G M (pc + 2) (a0 :: a1 :: a2 :: a3 :: a4 :: a5 :: a6 :: some (.ref x) :: r) st) : VJ G M pc (a0 :: a1 :: a2 :: a3 :: a4 :: a5 :: a6 :: q0 :: r) (.ref x :: st) := by
  obtain ⟨sd, E, P, l, p, e, R, s, m, args, below, meth, c⟩ := G
  obtain ⟨hx, hb, hr, hml, hown, hts, hK, hN, hlk, hR⟩ := C
  intro H locs ls hP hD hS hl
  obtain ⟨ls', e', h'⟩ := lh_store1 (v := .ref x) (i := 7) hl (by simp) rfl (lh_c1 (lo := (a0 :: a1 :: a2 :: a3 :: a4 :: a5 :: a6 :: q0 :: r)) (i := 7) (Or.inr ⟨6, _, rfl, rfl, h1⟩))
  intro T hT X
  obtain ⟨t, a, b⟩ := k H locs ls' hP hD hS h' T hT X
  refine ⟨t, ?_, b⟩
  jvm_step X.here [X.here.top, hx, hb, d, e', Value.isRef]
  exact a
theorem r_ast8 {G : zG} {cc : ByteArray} {own : String} {ret : Option FieldType} {nL fr lc : Nat} (C : zC G cc own ret nL fr lc) {M : zM} {r : List (Option Value)} {st : List Value} {pc : Nat} {a0 a1 a2 a3 a4 a5 a6 a7 q0 : Option Value} {x : Nat} (h1 : zc1 a7 = true) (d : decode cc pc = .ok (.astore 8, 2)) (k : VJ G M (pc + 2) (a0 :: a1 :: a2 :: a3 :: a4 :: a5 :: a6 :: a7 :: some (.ref x) :: r) st) : VJ G M pc (a0 :: a1 :: a2 :: a3 :: a4 :: a5 :: a6 :: a7 :: q0 :: r) (.ref x :: st) := by
  obtain ⟨sd, E, P, l, p, e, R, s, m, args, below, meth, c⟩ := G
  obtain ⟨hx, hb, hr, hml, hown, hts, hK, hN, hlk, hR⟩ := C
  intro H locs ls hP hD hS hl
  obtain ⟨ls', e', h'⟩ := lh_store1 (v := .ref x) (i := 8) hl (by simp) rfl (lh_c1 (lo := (a0 :: a1 :: a2 :: a3 :: a4 :: a5 :: a6 :: a7 :: q0 :: r)) (i := 8) (Or.inr ⟨7, _, rfl, rfl, h1⟩))
  intro T hT X
  obtain ⟨t, a, b⟩ := k H locs ls' hP hD hS h' T hT X
  refine ⟨t, ?_, b⟩
  jvm_step X.here [X.here.top, hx, hb, d, e', Value.isRef]
  exact a
theorem r_ast9 {G : zG} {cc : ByteArray} {own : String} {ret : Option FieldType} {nL fr lc : Nat} (C : zC G cc own ret nL fr lc) {M : zM} {r : List (Option Value)} {st : List Value} {pc : Nat} {a0 a1 a2 a3 a4 a5 a6 a7 a8 q0 : Option Value} {x : Nat} (h1 : zc1 a8 = true) (d : decode cc pc = .ok (.astore 9, 2)) (k : VJ G M (pc + 2) (a0 :: a1 :: a2 :: a3 :: a4 :: a5 :: a6 :: a7 :: a8 :: some (.ref x) :: r) st) : VJ G M pc (a0 :: a1 :: a2 :: a3 :: a4 :: a5 :: a6 :: a7 :: a8 :: q0 :: r) (.ref x :: st) := by
  obtain ⟨sd, E, P, l, p, e, R, s, m, args, below, meth, c⟩ := G
  obtain ⟨hx, hb, hr, hml, hown, hts, hK, hN, hlk, hR⟩ := C
  intro H locs ls hP hD hS hl
  obtain ⟨ls', e', h'⟩ := lh_store1 (v := .ref x) (i := 9) hl (by simp) rfl (lh_c1 (lo := (a0 :: a1 :: a2 :: a3 :: a4 :: a5 :: a6 :: a7 :: a8 :: q0 :: r)) (i := 9) (Or.inr ⟨8, _, rfl, rfl, h1⟩))
  intro T hT X
  obtain ⟨t, a, b⟩ := k H locs ls' hP hD hS h' T hT X
  refine ⟨t, ?_, b⟩
  jvm_step X.here [X.here.top, hx, hb, d, e', Value.isRef]
  exact a
theorem r_ast10 {G : zG} {cc : ByteArray} {own : String} {ret : Option FieldType} {nL fr lc : Nat} (C : zC G cc own ret nL fr lc) {M : zM} {r : List (Option Value)} {st : List Value} {pc : Nat} {a0 a1 a2 a3 a4 a5 a6 a7 a8 a9 q0 : Option Value} {x : Nat} (h1 : zc1 a9 = true) (d : decode cc pc = .ok (.astore 10, 2)) (k : VJ G M (pc + 2) (a0 :: a1 :: a2 :: a3 :: a4 :: a5 :: a6 :: a7 :: a8 :: a9 :: some (.ref x) :: r) st) : VJ G M pc (a0 :: a1 :: a2 :: a3 :: a4 :: a5 :: a6 :: a7 :: a8 :: a9 :: q0 :: r) (.ref x :: st) := by
  obtain ⟨sd, E, P, l, p, e, R, s, m, args, below, meth, c⟩ := G
  obtain ⟨hx, hb, hr, hml, hown, hts, hK, hN, hlk, hR⟩ := C
  intro H locs ls hP hD hS hl
  obtain ⟨ls', e', h'⟩ := lh_store1 (v := .ref x) (i := 10) hl (by simp) rfl (lh_c1 (lo := (a0 :: a1 :: a2 :: a3 :: a4 :: a5 :: a6 :: a7 :: a8 :: a9 :: q0 :: r)) (i := 10) (Or.inr ⟨9, _, rfl, rfl, h1⟩))
  intro T hT X
  obtain ⟨t, a, b⟩ := k H locs ls' hP hD hS h' T hT X
  refine ⟨t, ?_, b⟩
  jvm_step X.here [X.here.top, hx, hb, d, e', Value.isRef]
  exact a
theorem r_ast11 {G : zG} {cc : ByteArray} {own : String} {ret : Option FieldType} {nL fr lc : Nat} (C : zC G cc own ret nL fr lc) {M : zM} {r : List (Option Value)} {st : List Value} {pc : Nat} {a0 a1 a2 a3 a4 a5 a6 a7 a8 a9 a10 q0 : Option Value} {x : Nat} (h1 : zc1 a10 = true) (d : decode cc pc = .ok (.astore 11, 2)) (k : VJ G M (pc + 2) (a0 :: a1 :: a2 :: a3 :: a4 :: a5 :: a6 :: a7 :: a8 :: a9 :: a10 :: some (.ref x) :: r) st) : VJ G M pc (a0 :: a1 :: a2 :: a3 :: a4 :: a5 :: a6 :: a7 :: a8 :: a9 :: a10 :: q0 :: r) (.ref x :: st) := by
  obtain ⟨sd, E, P, l, p, e, R, s, m, args, below, meth, c⟩ := G
  obtain ⟨hx, hb, hr, hml, hown, hts, hK, hN, hlk, hR⟩ := C
  intro H locs ls hP hD hS hl
  obtain ⟨ls', e', h'⟩ := lh_store1 (v := .ref x) (i := 11) hl (by simp) rfl (lh_c1 (lo := (a0 :: a1 :: a2 :: a3 :: a4 :: a5 :: a6 :: a7 :: a8 :: a9 :: a10 :: q0 :: r)) (i := 11) (Or.inr ⟨10, _, rfl, rfl, h1⟩))
  intro T hT X
  obtain ⟨t, a, b⟩ := k H locs ls' hP hD hS h' T hT X
  refine ⟨t, ?_, b⟩
  jvm_step X.here [X.here.top, hx, hb, d, e', Value.isRef]
  exact a
theorem r_ast12 {G : zG} {cc : ByteArray} {own : String} {ret : Option FieldType} {nL fr lc : Nat} (C : zC G cc own ret nL fr lc) {M : zM} {r : List (Option Value)} {st : List Value} {pc : Nat} {a0 a1 a2 a3 a4 a5 a6 a7 a8 a9 a10 a11 q0 : Option Value} {x : Nat} (h1 : zc1 a11 = true) (d : decode cc pc = .ok (.astore 12, 2)) (k : VJ G M (pc + 2) (a0 :: a1 :: a2 :: a3 :: a4 :: a5 :: a6 :: a7 :: a8 :: a9 :: a10 :: a11 :: some (.ref x) :: r) st) : VJ G M pc (a0 :: a1 :: a2 :: a3 :: a4 :: a5 :: a6 :: a7 :: a8 :: a9 :: a10 :: a11 :: q0 :: r) (.ref x :: st) := by
  obtain ⟨sd, E, P, l, p, e, R, s, m, args, below, meth, c⟩ := G
  obtain ⟨hx, hb, hr, hml, hown, hts, hK, hN, hlk, hR⟩ := C
  intro H locs ls hP hD hS hl
  obtain ⟨ls', e', h'⟩ := lh_store1 (v := .ref x) (i := 12) hl (by simp) rfl (lh_c1 (lo := (a0 :: a1 :: a2 :: a3 :: a4 :: a5 :: a6 :: a7 :: a8 :: a9 :: a10 :: a11 :: q0 :: r)) (i := 12) (Or.inr ⟨11, _, rfl, rfl, h1⟩))
  intro T hT X
  obtain ⟨t, a, b⟩ := k H locs ls' hP hD hS h' T hT X
  refine ⟨t, ?_, b⟩
  jvm_step X.here [X.here.top, hx, hb, d, e', Value.isRef]
  exact a
theorem r_lst0 {G : zG} {cc : ByteArray} {own : String} {ret : Option FieldType} {nL fr lc : Nat} (C : zC G cc own ret nL fr lc) {M : zM} {r : List (Option Value)} {st : List Value} {pc : Nat} { q0 q1 : Option Value} {x : Int64} (d : decode cc pc = .ok (.lstore_n 0, 1)) (k : VJ G M (pc + 1) (some (.long x) :: none :: r) st) : VJ G M pc (q0 :: q1 :: r) (.long x :: st) := by
  obtain ⟨sd, E, P, l, p, e, R, s, m, args, below, meth, c⟩ := G
  obtain ⟨hx, hb, hr, hml, hown, hts, hK, hN, hlk, hR⟩ := C
  intro H locs ls hP hD hS hl
  obtain ⟨ls', e', h'⟩ := lh_store2 (v := .long x) (i := 0) hl (by simp) rfl (lh_c1 (lo := (q0 :: q1 :: r)) (i := 0) (Or.inl rfl))
  intro T hT X
  obtain ⟨t, a, b⟩ := k H locs ls' hP hD hS h' T hT X
  refine ⟨t, ?_, b⟩
  jvm_step X.here [X.here.top, hx, hb, d, e']
  exact a
theorem r_lst1 {G : zG} {cc : ByteArray} {own : String} {ret : Option FieldType} {nL fr lc : Nat} (C : zC G cc own ret nL fr lc) {M : zM} {r : List (Option Value)} {st : List Value} {pc : Nat} {a0 q0 q1 : Option Value} {x : Int64} (h1 : zc1 a0 = true) (d : decode cc pc = .ok (.lstore_n 1, 1)) (k : VJ G M (pc + 1) (a0 :: some (.long x) :: none :: r) st) : VJ G M pc (a0 :: q0 :: q1 :: r) (.long x :: st) := by
  obtain ⟨sd, E, P, l, p, e, R, s, m, args, below, meth, c⟩ := G
  obtain ⟨hx, hb, hr, hml, hown, hts, hK, hN, hlk, hR⟩ := C
  intro H locs ls hP hD hS hl
  obtain ⟨ls', e', h'⟩ := lh_store2 (v := .long x) (i := 1) hl (by simp) rfl (lh_c1 (lo := (a0 :: q0 :: q1 :: r)) (i := 1) (Or.inr ⟨0, _, rfl, rfl, h1⟩))
  intro T hT X
  obtain ⟨t, a, b⟩ := k H locs ls' hP hD hS h' T hT X
  refine ⟨t, ?_, b⟩
  jvm_step X.here [X.here.top, hx, hb, d, e']
  exact a
theorem r_lst2 {G : zG} {cc : ByteArray} {own : String} {ret : Option FieldType} {nL fr lc : Nat} (C : zC G cc own ret nL fr lc) {M : zM} {r : List (Option Value)} {st : List Value} {pc : Nat} {a0 a1 q0 q1 : Option Value} {x : Int64} (h1 : zc1 a1 = true) (d : decode cc pc = .ok (.lstore_n 2, 1)) (k : VJ G M (pc + 1) (a0 :: a1 :: some (.long x) :: none :: r) st) : VJ G M pc (a0 :: a1 :: q0 :: q1 :: r) (.long x :: st) := by
  obtain ⟨sd, E, P, l, p, e, R, s, m, args, below, meth, c⟩ := G
  obtain ⟨hx, hb, hr, hml, hown, hts, hK, hN, hlk, hR⟩ := C
  intro H locs ls hP hD hS hl
  obtain ⟨ls', e', h'⟩ := lh_store2 (v := .long x) (i := 2) hl (by simp) rfl (lh_c1 (lo := (a0 :: a1 :: q0 :: q1 :: r)) (i := 2) (Or.inr ⟨1, _, rfl, rfl, h1⟩))
  intro T hT X
  obtain ⟨t, a, b⟩ := k H locs ls' hP hD hS h' T hT X
  refine ⟨t, ?_, b⟩
  jvm_step X.here [X.here.top, hx, hb, d, e']
  exact a
theorem r_lst3 {G : zG} {cc : ByteArray} {own : String} {ret : Option FieldType} {nL fr lc : Nat} (C : zC G cc own ret nL fr lc) {M : zM} {r : List (Option Value)} {st : List Value} {pc : Nat} {a0 a1 a2 q0 q1 : Option Value} {x : Int64} (h1 : zc1 a2 = true) (d : decode cc pc = .ok (.lstore_n 3, 1)) (k : VJ G M (pc + 1) (a0 :: a1 :: a2 :: some (.long x) :: none :: r) st) : VJ G M pc (a0 :: a1 :: a2 :: q0 :: q1 :: r) (.long x :: st) := by
  obtain ⟨sd, E, P, l, p, e, R, s, m, args, below, meth, c⟩ := G
  obtain ⟨hx, hb, hr, hml, hown, hts, hK, hN, hlk, hR⟩ := C
  intro H locs ls hP hD hS hl
  obtain ⟨ls', e', h'⟩ := lh_store2 (v := .long x) (i := 3) hl (by simp) rfl (lh_c1 (lo := (a0 :: a1 :: a2 :: q0 :: q1 :: r)) (i := 3) (Or.inr ⟨2, _, rfl, rfl, h1⟩))
  intro T hT X
  obtain ⟨t, a, b⟩ := k H locs ls' hP hD hS h' T hT X
  refine ⟨t, ?_, b⟩
  jvm_step X.here [X.here.top, hx, hb, d, e']
  exact a
theorem r_lst4 {G : zG} {cc : ByteArray} {own : String} {ret : Option FieldType} {nL fr lc : Nat} (C : zC G cc own ret nL fr lc) {M : zM} {r : List (Option Value)} {st : List Value} {pc : Nat} {a0 a1 a2 a3 q0 q1 : Option Value} {x : Int64} (h1 : zc1 a3 = true) (d : decode cc pc = .ok (.lstore 4, 2)) (k : VJ G M (pc + 2) (a0 :: a1 :: a2 :: a3 :: some (.long x) :: none :: r) st) : VJ G M pc (a0 :: a1 :: a2 :: a3 :: q0 :: q1 :: r) (.long x :: st) := by
  obtain ⟨sd, E, P, l, p, e, R, s, m, args, below, meth, c⟩ := G
  obtain ⟨hx, hb, hr, hml, hown, hts, hK, hN, hlk, hR⟩ := C
  intro H locs ls hP hD hS hl
  obtain ⟨ls', e', h'⟩ := lh_store2 (v := .long x) (i := 4) hl (by simp) rfl (lh_c1 (lo := (a0 :: a1 :: a2 :: a3 :: q0 :: q1 :: r)) (i := 4) (Or.inr ⟨3, _, rfl, rfl, h1⟩))
  intro T hT X
  obtain ⟨t, a, b⟩ := k H locs ls' hP hD hS h' T hT X
  refine ⟨t, ?_, b⟩
  jvm_step X.here [X.here.top, hx, hb, d, e']
  exact a
theorem r_lst5 {G : zG} {cc : ByteArray} {own : String} {ret : Option FieldType} {nL fr lc : Nat} (C : zC G cc own ret nL fr lc) {M : zM} {r : List (Option Value)} {st : List Value} {pc : Nat} {a0 a1 a2 a3 a4 q0 q1 : Option Value} {x : Int64} (h1 : zc1 a4 = true) (d : decode cc pc = .ok (.lstore 5, 2)) (k : VJ G M (pc + 2) (a0 :: a1 :: a2 :: a3 :: a4 :: some (.long x) :: none :: r) st) : VJ G M pc (a0 :: a1 :: a2 :: a3 :: a4 :: q0 :: q1 :: r) (.long x :: st) := by
  obtain ⟨sd, E, P, l, p, e, R, s, m, args, below, meth, c⟩ := G
  obtain ⟨hx, hb, hr, hml, hown, hts, hK, hN, hlk, hR⟩ := C
  intro H locs ls hP hD hS hl
  obtain ⟨ls', e', h'⟩ := lh_store2 (v := .long x) (i := 5) hl (by simp) rfl (lh_c1 (lo := (a0 :: a1 :: a2 :: a3 :: a4 :: q0 :: q1 :: r)) (i := 5) (Or.inr ⟨4, _, rfl, rfl, h1⟩))
  intro T hT X
  obtain ⟨t, a, b⟩ := k H locs ls' hP hD hS h' T hT X
  refine ⟨t, ?_, b⟩
  jvm_step X.here [X.here.top, hx, hb, d, e']
  exact a
theorem r_lst6 {G : zG} {cc : ByteArray} {own : String} {ret : Option FieldType} {nL fr lc : Nat} (C : zC G cc own ret nL fr lc) {M : zM} {r : List (Option Value)} {st : List Value} {pc : Nat} {a0 a1 a2 a3 a4 a5 q0 q1 : Option Value} {x : Int64} (h1 : zc1 a5 = true) (d : decode cc pc = .ok (.lstore 6, 2)) (k : VJ G M (pc + 2) (a0 :: a1 :: a2 :: a3 :: a4 :: a5 :: some (.long x) :: none :: r) st) : VJ G M pc (a0 :: a1 :: a2 :: a3 :: a4 :: a5 :: q0 :: q1 :: r) (.long x :: st) := by
  obtain ⟨sd, E, P, l, p, e, R, s, m, args, below, meth, c⟩ := G
  obtain ⟨hx, hb, hr, hml, hown, hts, hK, hN, hlk, hR⟩ := C
  intro H locs ls hP hD hS hl
  obtain ⟨ls', e', h'⟩ := lh_store2 (v := .long x) (i := 6) hl (by simp) rfl (lh_c1 (lo := (a0 :: a1 :: a2 :: a3 :: a4 :: a5 :: q0 :: q1 :: r)) (i := 6) (Or.inr ⟨5, _, rfl, rfl, h1⟩))
  intro T hT X
  obtain ⟨t, a, b⟩ := k H locs ls' hP hD hS h' T hT X
  refine ⟨t, ?_, b⟩
  jvm_step X.here [X.here.top, hx, hb, d, e']
  exact a
theorem r_lst7 {G : zG} {cc : ByteArray} {own : String} {ret : Option FieldType} {nL fr lc : Nat} (C : zC G cc own ret nL fr lc) {M : zM} {r : List (Option Value)} {st : List Value} {pc : Nat} {a0 a1 a2 a3 a4 a5 a6 q0 q1 : Option Value} {x : Int64} (h1 : zc1 a6 = true) (d : decode cc pc = .ok (.lstore 7, 2)) (k : VJ G M (pc + 2) (a0 :: a1 :: a2 :: a3 :: a4 :: a5 :: a6 :: some (.long x) :: none :: r) st) : VJ G M pc (a0 :: a1 :: a2 :: a3 :: a4 :: a5 :: a6 :: q0 :: q1 :: r) (.long x :: st) := by
  obtain ⟨sd, E, P, l, p, e, R, s, m, args, below, meth, c⟩ := G
  obtain ⟨hx, hb, hr, hml, hown, hts, hK, hN, hlk, hR⟩ := C
  intro H locs ls hP hD hS hl
  obtain ⟨ls', e', h'⟩ := lh_store2 (v := .long x) (i := 7) hl (by simp) rfl (lh_c1 (lo := (a0 :: a1 :: a2 :: a3 :: a4 :: a5 :: a6 :: q0 :: q1 :: r)) (i := 7) (Or.inr ⟨6, _, rfl, rfl, h1⟩))
  intro T hT X
  obtain ⟨t, a, b⟩ := k H locs ls' hP hD hS h' T hT X
  refine ⟨t, ?_, b⟩
  jvm_step X.here [X.here.top, hx, hb, d, e']
  exact a
theorem r_lst8 {G : zG} {cc : ByteArray} {own : String} {ret : Option FieldType} {nL fr lc : Nat} (C : zC G cc own ret nL fr lc) {M : zM} {r : List (Option Value)} {st : List Value} {pc : Nat} {a0 a1 a2 a3 a4 a5 a6 a7 q0 q1 : Option Value} {x : Int64} (h1 : zc1 a7 = true) (d : decode cc pc = .ok (.lstore 8, 2)) (k : VJ G M (pc + 2) (a0 :: a1 :: a2 :: a3 :: a4 :: a5 :: a6 :: a7 :: some (.long x) :: none :: r) st) : VJ G M pc (a0 :: a1 :: a2 :: a3 :: a4 :: a5 :: a6 :: a7 :: q0 :: q1 :: r) (.long x :: st) := by
  obtain ⟨sd, E, P, l, p, e, R, s, m, args, below, meth, c⟩ := G
  obtain ⟨hx, hb, hr, hml, hown, hts, hK, hN, hlk, hR⟩ := C
  intro H locs ls hP hD hS hl
  obtain ⟨ls', e', h'⟩ := lh_store2 (v := .long x) (i := 8) hl (by simp) rfl (lh_c1 (lo := (a0 :: a1 :: a2 :: a3 :: a4 :: a5 :: a6 :: a7 :: q0 :: q1 :: r)) (i := 8) (Or.inr ⟨7, _, rfl, rfl, h1⟩))
  intro T hT X
  obtain ⟨t, a, b⟩ := k H locs ls' hP hD hS h' T hT X
  refine ⟨t, ?_, b⟩
  jvm_step X.here [X.here.top, hx, hb, d, e']
  exact a
theorem r_lst9 {G : zG} {cc : ByteArray} {own : String} {ret : Option FieldType} {nL fr lc : Nat} (C : zC G cc own ret nL fr lc) {M : zM} {r : List (Option Value)} {st : List Value} {pc : Nat} {a0 a1 a2 a3 a4 a5 a6 a7 a8 q0 q1 : Option Value} {x : Int64} (h1 : zc1 a8 = true) (d : decode cc pc = .ok (.lstore 9, 2)) (k : VJ G M (pc + 2) (a0 :: a1 :: a2 :: a3 :: a4 :: a5 :: a6 :: a7 :: a8 :: some (.long x) :: none :: r) st) : VJ G M pc (a0 :: a1 :: a2 :: a3 :: a4 :: a5 :: a6 :: a7 :: a8 :: q0 :: q1 :: r) (.long x :: st) := by
  obtain ⟨sd, E, P, l, p, e, R, s, m, args, below, meth, c⟩ := G
  obtain ⟨hx, hb, hr, hml, hown, hts, hK, hN, hlk, hR⟩ := C
  intro H locs ls hP hD hS hl
  obtain ⟨ls', e', h'⟩ := lh_store2 (v := .long x) (i := 9) hl (by simp) rfl (lh_c1 (lo := (a0 :: a1 :: a2 :: a3 :: a4 :: a5 :: a6 :: a7 :: a8 :: q0 :: q1 :: r)) (i := 9) (Or.inr ⟨8, _, rfl, rfl, h1⟩))
  intro T hT X
  obtain ⟨t, a, b⟩ := k H locs ls' hP hD hS h' T hT X
  refine ⟨t, ?_, b⟩
  jvm_step X.here [X.here.top, hx, hb, d, e']
  exact a
theorem r_lst10 {G : zG} {cc : ByteArray} {own : String} {ret : Option FieldType} {nL fr lc : Nat} (C : zC G cc own ret nL fr lc) {M : zM} {r : List (Option Value)} {st : List Value} {pc : Nat} {a0 a1 a2 a3 a4 a5 a6 a7 a8 a9 q0 q1 : Option Value} {x : Int64} (h1 : zc1 a9 = true) (d : decode cc pc = .ok (.lstore 10, 2)) (k : VJ G M (pc + 2) (a0 :: a1 :: a2 :: a3 :: a4 :: a5 :: a6 :: a7 :: a8 :: a9 :: some (.long x) :: none :: r) st) : VJ G M pc (a0 :: a1 :: a2 :: a3 :: a4 :: a5 :: a6 :: a7 :: a8 :: a9 :: q0 :: q1 :: r) (.long x :: st) := by
  obtain ⟨sd, E, P, l, p, e, R, s, m, args, below, meth, c⟩ := G
  obtain ⟨hx, hb, hr, hml, hown, hts, hK, hN, hlk, hR⟩ := C
  intro H locs ls hP hD hS hl
  obtain ⟨ls', e', h'⟩ := lh_store2 (v := .long x) (i := 10) hl (by simp) rfl (lh_c1 (lo := (a0 :: a1 :: a2 :: a3 :: a4 :: a5 :: a6 :: a7 :: a8 :: a9 :: q0 :: q1 :: r)) (i := 10) (Or.inr ⟨9, _, rfl, rfl, h1⟩))
  intro T hT X
  obtain ⟨t, a, b⟩ := k H locs ls' hP hD hS h' T hT X
  refine ⟨t, ?_, b⟩
  jvm_step X.here [X.here.top, hx, hb, d, e']
  exact a
theorem r_lst11 {G : zG} {cc : ByteArray} {own : String} {ret : Option FieldType} {nL fr lc : Nat} (C : zC G cc own ret nL fr lc) {M : zM} {r : List (Option Value)} {st : List Value} {pc : Nat} {a0 a1 a2 a3 a4 a5 a6 a7 a8 a9 a10 q0 q1 : Option Value} {x : Int64} (h1 : zc1 a10 = true) (d : decode cc pc = .ok (.lstore 11, 2)) (k : VJ G M (pc + 2) (a0 :: a1 :: a2 :: a3 :: a4 :: a5 :: a6 :: a7 :: a8 :: a9 :: a10 :: some (.long x) :: none :: r) st) : VJ G M pc (a0 :: a1 :: a2 :: a3 :: a4 :: a5 :: a6 :: a7 :: a8 :: a9 :: a10 :: q0 :: q1 :: r) (.long x :: st) := by
  obtain ⟨sd, E, P, l, p, e, R, s, m, args, below, meth, c⟩ := G
  obtain ⟨hx, hb, hr, hml, hown, hts, hK, hN, hlk, hR⟩ := C
  intro H locs ls hP hD hS hl
  obtain ⟨ls', e', h'⟩ := lh_store2 (v := .long x) (i := 11) hl (by simp) rfl (lh_c1 (lo := (a0 :: a1 :: a2 :: a3 :: a4 :: a5 :: a6 :: a7 :: a8 :: a9 :: a10 :: q0 :: q1 :: r)) (i := 11) (Or.inr ⟨10, _, rfl, rfl, h1⟩))
  intro T hT X
  obtain ⟨t, a, b⟩ := k H locs ls' hP hD hS h' T hT X
  refine ⟨t, ?_, b⟩
  jvm_step X.here [X.here.top, hx, hb, d, e']
  exact a
theorem r_iinc0 {G : zG} {cc : ByteArray} {own : String} {ret : Option FieldType} {nL fr lc : Nat} (C : zC G cc own ret nL fr lc) {M : zM} {r : List (Option Value)} {st : List Value} {pc : Nat} {z n : Int} (d : decode cc pc = .ok (.iinc 0 n, 3)) (k : VJ G M (pc + 3) (some (.int (iI (z + n))) :: r) st) : VJ G M pc (some (.int (iI z)) :: r) st := by
  obtain ⟨sd, E, P, l, p, e, R, s, m, args, below, meth, c⟩ := G
  obtain ⟨hx, hb, hr, hml, hown, hts, hK, hN, hlk, hR⟩ := C
  intro H locs ls hP hD hS hl
  obtain ⟨ls', e', h'⟩ := lh_store1 (v := .int (iI (z + n))) (i := 0) hl (by simp) rfl (lh_c1 (lo := (some (.int (iI z)) :: r)) (i := 0) (Or.inl rfl))
  have hg : ls[0]? = some (.val (.int (iI z))) := hl.2.2 0 _ rfl
  have e2 : iI z + Int32.ofInt n = iI (z + n) := iI_add z n
  intro T hT X
  obtain ⟨t, a, b⟩ := k H locs ls' hP hD hS h' T hT X
  refine ⟨t, ?_, b⟩
  rw [← e2] at e'
  jvm_step X.here [X.here.top, hx, hb, d, hg, e']
  exact a
theorem r_iinc1 {G : zG} {cc : ByteArray} {own : String} {ret : Option FieldType} {nL fr lc : Nat} (C : zC G cc own ret nL fr lc) {M : zM} {r : List (Option Value)} {st : List Value} {pc : Nat} {a0 : Option Value} {z n : Int} (h1 : zc1 a0 = true) (d : decode cc pc = .ok (.iinc 1 n, 3)) (k : VJ G M (pc + 3) (a0 :: some (.int (iI (z + n))) :: r) st) : VJ G M pc (a0 :: some (.int (iI z)) :: r) st := by
  obtain ⟨sd, E, P, l, p, e, R, s, m, args, below, meth, c⟩ := G
  obtain ⟨hx, hb, hr, hml, hown, hts, hK, hN, hlk, hR⟩ := C
  intro H locs ls hP hD hS hl
  obtain ⟨ls', e', h'⟩ := lh_store1 (v := .int (iI (z + n))) (i := 1) hl (by simp) rfl (lh_c1 (lo := (a0 :: some (.int (iI z)) :: r)) (i := 1) (Or.inr ⟨0, _, rfl, rfl, h1⟩))
  have hg : ls[1]? = some (.val (.int (iI z))) := hl.2.2 1 _ rfl
  have e2 : iI z + Int32.ofInt n = iI (z + n) := iI_add z n
  intro T hT X
  obtain ⟨t, a, b⟩ := k H locs ls' hP hD hS h' T hT X
  refine ⟨t, ?_, b⟩
  rw [← e2] at e'
  jvm_step X.here [X.here.top, hx, hb, d, hg, e']
  exact a
theorem r_iinc2 {G : zG} {cc : ByteArray} {own : String} {ret : Option FieldType} {nL fr lc : Nat} (C : zC G cc own ret nL fr lc) {M : zM} {r : List (Option Value)} {st : List Value} {pc : Nat} {a0 a1 : Option Value} {z n : Int} (h1 : zc1 a1 = true) (d : decode cc pc = .ok (.iinc 2 n, 3)) (k : VJ G M (pc + 3) (a0 :: a1 :: some (.int (iI (z + n))) :: r) st) : VJ G M pc (a0 :: a1 :: some (.int (iI z)) :: r) st := by
  obtain ⟨sd, E, P, l, p, e, R, s, m, args, below, meth, c⟩ := G
  obtain ⟨hx, hb, hr, hml, hown, hts, hK, hN, hlk, hR⟩ := C
  intro H locs ls hP hD hS hl
  obtain ⟨ls', e', h'⟩ := lh_store1 (v := .int (iI (z + n))) (i := 2) hl (by simp) rfl (lh_c1 (lo := (a0 :: a1 :: some (.int (iI z)) :: r)) (i := 2) (Or.inr ⟨1, _, rfl, rfl, h1⟩))
  have hg : ls[2]? = some (.val (.int (iI z))) := hl.2.2 2 _ rfl
  have e2 : iI z + Int32.ofInt n = iI (z + n) := iI_add z n
  intro T hT X
  obtain ⟨t, a, b⟩ := k H locs ls' hP hD hS h' T hT X
  refine ⟨t, ?_, b⟩
  rw [← e2] at e'
  jvm_step X.here [X.here.top, hx, hb, d, hg, e']
  exact a
theorem r_iinc3 {G : zG} {cc : ByteArray} {own : String} {ret : Option FieldType} {nL fr lc : Nat} (C : zC G cc own ret nL fr lc) {M : zM} {r : List (Option Value)} {st : List Value} {pc : Nat} {a0 a1 a2 : Option Value} {z n : Int} (h1 : zc1 a2 = true) (d : decode cc pc = .ok (.iinc 3 n, 3)) (k : VJ G M (pc + 3) (a0 :: a1 :: a2 :: some (.int (iI (z + n))) :: r) st) : VJ G M pc (a0 :: a1 :: a2 :: some (.int (iI z)) :: r) st := by
  obtain ⟨sd, E, P, l, p, e, R, s, m, args, below, meth, c⟩ := G
  obtain ⟨hx, hb, hr, hml, hown, hts, hK, hN, hlk, hR⟩ := C
  intro H locs ls hP hD hS hl
  obtain ⟨ls', e', h'⟩ := lh_store1 (v := .int (iI (z + n))) (i := 3) hl (by simp) rfl (lh_c1 (lo := (a0 :: a1 :: a2 :: some (.int (iI z)) :: r)) (i := 3) (Or.inr ⟨2, _, rfl, rfl, h1⟩))
  have hg : ls[3]? = some (.val (.int (iI z))) := hl.2.2 3 _ rfl
  have e2 : iI z + Int32.ofInt n = iI (z + n) := iI_add z n
  intro T hT X
  obtain ⟨t, a, b⟩ := k H locs ls' hP hD hS h' T hT X
  refine ⟨t, ?_, b⟩
  rw [← e2] at e'
  jvm_step X.here [X.here.top, hx, hb, d, hg, e']
  exact a
theorem r_iinc4 {G : zG} {cc : ByteArray} {own : String} {ret : Option FieldType} {nL fr lc : Nat} (C : zC G cc own ret nL fr lc) {M : zM} {r : List (Option Value)} {st : List Value} {pc : Nat} {a0 a1 a2 a3 : Option Value} {z n : Int} (h1 : zc1 a3 = true) (d : decode cc pc = .ok (.iinc 4 n, 3)) (k : VJ G M (pc + 3) (a0 :: a1 :: a2 :: a3 :: some (.int (iI (z + n))) :: r) st) : VJ G M pc (a0 :: a1 :: a2 :: a3 :: some (.int (iI z)) :: r) st := by
  obtain ⟨sd, E, P, l, p, e, R, s, m, args, below, meth, c⟩ := G
  obtain ⟨hx, hb, hr, hml, hown, hts, hK, hN, hlk, hR⟩ := C
  intro H locs ls hP hD hS hl
  obtain ⟨ls', e', h'⟩ := lh_store1 (v := .int (iI (z + n))) (i := 4) hl (by simp) rfl (lh_c1 (lo := (a0 :: a1 :: a2 :: a3 :: some (.int (iI z)) :: r)) (i := 4) (Or.inr ⟨3, _, rfl, rfl, h1⟩))
  have hg : ls[4]? = some (.val (.int (iI z))) := hl.2.2 4 _ rfl
  have e2 : iI z + Int32.ofInt n = iI (z + n) := iI_add z n
  intro T hT X
  obtain ⟨t, a, b⟩ := k H locs ls' hP hD hS h' T hT X
  refine ⟨t, ?_, b⟩
  rw [← e2] at e'
  jvm_step X.here [X.here.top, hx, hb, d, hg, e']
  exact a
theorem r_iinc5 {G : zG} {cc : ByteArray} {own : String} {ret : Option FieldType} {nL fr lc : Nat} (C : zC G cc own ret nL fr lc) {M : zM} {r : List (Option Value)} {st : List Value} {pc : Nat} {a0 a1 a2 a3 a4 : Option Value} {z n : Int} (h1 : zc1 a4 = true) (d : decode cc pc = .ok (.iinc 5 n, 3)) (k : VJ G M (pc + 3) (a0 :: a1 :: a2 :: a3 :: a4 :: some (.int (iI (z + n))) :: r) st) : VJ G M pc (a0 :: a1 :: a2 :: a3 :: a4 :: some (.int (iI z)) :: r) st := by
  obtain ⟨sd, E, P, l, p, e, R, s, m, args, below, meth, c⟩ := G
  obtain ⟨hx, hb, hr, hml, hown, hts, hK, hN, hlk, hR⟩ := C
  intro H locs ls hP hD hS hl
  obtain ⟨ls', e', h'⟩ := lh_store1 (v := .int (iI (z + n))) (i := 5) hl (by simp) rfl (lh_c1 (lo := (a0 :: a1 :: a2 :: a3 :: a4 :: some (.int (iI z)) :: r)) (i := 5) (Or.inr ⟨4, _, rfl, rfl, h1⟩))
  have hg : ls[5]? = some (.val (.int (iI z))) := hl.2.2 5 _ rfl
  have e2 : iI z + Int32.ofInt n = iI (z + n) := iI_add z n
  intro T hT X
  obtain ⟨t, a, b⟩ := k H locs ls' hP hD hS h' T hT X
  refine ⟨t, ?_, b⟩
  rw [← e2] at e'
  jvm_step X.here [X.here.top, hx, hb, d, hg, e']
  exact a
theorem r_iinc6 {G : zG} {cc : ByteArray} {own : String} {ret : Option FieldType} {nL fr lc : Nat} (C : zC G cc own ret nL fr lc) {M : zM} {r : List (Option Value)} {st : List Value} {pc : Nat} {a0 a1 a2 a3 a4 a5 : Option Value} {z n : Int} (h1 : zc1 a5 = true) (d : decode cc pc = .ok (.iinc 6 n, 3)) (k : VJ G M (pc + 3) (a0 :: a1 :: a2 :: a3 :: a4 :: a5 :: some (.int (iI (z + n))) :: r) st) : VJ G M pc (a0 :: a1 :: a2 :: a3 :: a4 :: a5 :: some (.int (iI z)) :: r) st := by
  obtain ⟨sd, E, P, l, p, e, R, s, m, args, below, meth, c⟩ := G
  obtain ⟨hx, hb, hr, hml, hown, hts, hK, hN, hlk, hR⟩ := C
  intro H locs ls hP hD hS hl
  obtain ⟨ls', e', h'⟩ := lh_store1 (v := .int (iI (z + n))) (i := 6) hl (by simp) rfl (lh_c1 (lo := (a0 :: a1 :: a2 :: a3 :: a4 :: a5 :: some (.int (iI z)) :: r)) (i := 6) (Or.inr ⟨5, _, rfl, rfl, h1⟩))
  have hg : ls[6]? = some (.val (.int (iI z))) := hl.2.2 6 _ rfl
  have e2 : iI z + Int32.ofInt n = iI (z + n) := iI_add z n
  intro T hT X
  obtain ⟨t, a, b⟩ := k H locs ls' hP hD hS h' T hT X
  refine ⟨t, ?_, b⟩
  rw [← e2] at e'
  jvm_step X.here [X.here.top, hx, hb, d, hg, e']
  exact a
theorem r_iinc7 {G : zG} {cc : ByteArray} {own : String} {ret : Option FieldType} {nL fr lc : Nat} (C : zC G cc own ret nL fr lc) {M : zM} {r : List (Option Value)} {st : List Value} {pc : Nat} {a0 a1 a2 a3 a4 a5 a6 : Option Value} {z n : Int} (h1 : zc1 a6 = true) (d : decode cc pc = .ok (.iinc 7 n, 3)) (k : VJ G M (pc + 3) (a0 :: a1 :: a2 :: a3 :: a4 :: a5 :: a6 :: some (.int (iI (z + n))) :: r) st) : VJ G M pc (a0 :: a1 :: a2 :: a3 :: a4 :: a5 :: a6 :: some (.int (iI z)) :: r) st := by
  obtain ⟨sd, E, P, l, p, e, R, s, m, args, below, meth, c⟩ := G
  obtain ⟨hx, hb, hr, hml, hown, hts, hK, hN, hlk, hR⟩ := C
  intro H locs ls hP hD hS hl
  obtain ⟨ls', e', h'⟩ := lh_store1 (v := .int (iI (z + n))) (i := 7) hl (by simp) rfl (lh_c1 (lo := (a0 :: a1 :: a2 :: a3 :: a4 :: a5 :: a6 :: some (.int (iI z)) :: r)) (i := 7) (Or.inr ⟨6, _, rfl, rfl, h1⟩))
  have hg : ls[7]? = some (.val (.int (iI z))) := hl.2.2 7 _ rfl
  have e2 : iI z + Int32.ofInt n = iI (z + n) := iI_add z n
  intro T hT X
  obtain ⟨t, a, b⟩ := k H locs ls' hP hD hS h' T hT X
  refine ⟨t, ?_, b⟩
  rw [← e2] at e'
  jvm_step X.here [X.here.top, hx, hb, d, hg, e']
  exact a
theorem r_iinc8 {G : zG} {cc : ByteArray} {own : String} {ret : Option FieldType} {nL fr lc : Nat} (C : zC G cc own ret nL fr lc) {M : zM} {r : List (Option Value)} {st : List Value} {pc : Nat} {a0 a1 a2 a3 a4 a5 a6 a7 : Option Value} {z n : Int} (h1 : zc1 a7 = true) (d : decode cc pc = .ok (.iinc 8 n, 3)) (k : VJ G M (pc + 3) (a0 :: a1 :: a2 :: a3 :: a4 :: a5 :: a6 :: a7 :: some (.int (iI (z + n))) :: r) st) : VJ G M pc (a0 :: a1 :: a2 :: a3 :: a4 :: a5 :: a6 :: a7 :: some (.int (iI z)) :: r) st := by
  obtain ⟨sd, E, P, l, p, e, R, s, m, args, below, meth, c⟩ := G
  obtain ⟨hx, hb, hr, hml, hown, hts, hK, hN, hlk, hR⟩ := C
  intro H locs ls hP hD hS hl
  obtain ⟨ls', e', h'⟩ := lh_store1 (v := .int (iI (z + n))) (i := 8) hl (by simp) rfl (lh_c1 (lo := (a0 :: a1 :: a2 :: a3 :: a4 :: a5 :: a6 :: a7 :: some (.int (iI z)) :: r)) (i := 8) (Or.inr ⟨7, _, rfl, rfl, h1⟩))
  have hg : ls[8]? = some (.val (.int (iI z))) := hl.2.2 8 _ rfl
  have e2 : iI z + Int32.ofInt n = iI (z + n) := iI_add z n
  intro T hT X
  obtain ⟨t, a, b⟩ := k H locs ls' hP hD hS h' T hT X
  refine ⟨t, ?_, b⟩
  rw [← e2] at e'
  jvm_step X.here [X.here.top, hx, hb, d, hg, e']
  exact a
theorem r_iinc9 {G : zG} {cc : ByteArray} {own : String} {ret : Option FieldType} {nL fr lc : Nat} (C : zC G cc own ret nL fr lc) {M : zM} {r : List (Option Value)} {st : List Value} {pc : Nat} {a0 a1 a2 a3 a4 a5 a6 a7 a8 : Option Value} {z n : Int} (h1 : zc1 a8 = true) (d : decode cc pc = .ok (.iinc 9 n, 3)) (k : VJ G M (pc + 3) (a0 :: a1 :: a2 :: a3 :: a4 :: a5 :: a6 :: a7 :: a8 :: some (.int (iI (z + n))) :: r) st) : VJ G M pc (a0 :: a1 :: a2 :: a3 :: a4 :: a5 :: a6 :: a7 :: a8 :: some (.int (iI z)) :: r) st := by
  obtain ⟨sd, E, P, l, p, e, R, s, m, args, below, meth, c⟩ := G
  obtain ⟨hx, hb, hr, hml, hown, hts, hK, hN, hlk, hR⟩ := C
  intro H locs ls hP hD hS hl
  obtain ⟨ls', e', h'⟩ := lh_store1 (v := .int (iI (z + n))) (i := 9) hl (by simp) rfl (lh_c1 (lo := (a0 :: a1 :: a2 :: a3 :: a4 :: a5 :: a6 :: a7 :: a8 :: some (.int (iI z)) :: r)) (i := 9) (Or.inr ⟨8, _, rfl, rfl, h1⟩))
  have hg : ls[9]? = some (.val (.int (iI z))) := hl.2.2 9 _ rfl
  have e2 : iI z + Int32.ofInt n = iI (z + n) := iI_add z n
  intro T hT X
  obtain ⟨t, a, b⟩ := k H locs ls' hP hD hS h' T hT X
  refine ⟨t, ?_, b⟩
  rw [← e2] at e'
  jvm_step X.here [X.here.top, hx, hb, d, hg, e']
  exact a
theorem r_iinc10 {G : zG} {cc : ByteArray} {own : String} {ret : Option FieldType} {nL fr lc : Nat} (C : zC G cc own ret nL fr lc) {M : zM} {r : List (Option Value)} {st : List Value} {pc : Nat} {a0 a1 a2 a3 a4 a5 a6 a7 a8 a9 : Option Value} {z n : Int} (h1 : zc1 a9 = true) (d : decode cc pc = .ok (.iinc 10 n, 3)) (k : VJ G M (pc + 3) (a0 :: a1 :: a2 :: a3 :: a4 :: a5 :: a6 :: a7 :: a8 :: a9 :: some (.int (iI (z + n))) :: r) st) : VJ G M pc (a0 :: a1 :: a2 :: a3 :: a4 :: a5 :: a6 :: a7 :: a8 :: a9 :: some (.int (iI z)) :: r) st := by
  obtain ⟨sd, E, P, l, p, e, R, s, m, args, below, meth, c⟩ := G
  obtain ⟨hx, hb, hr, hml, hown, hts, hK, hN, hlk, hR⟩ := C
  intro H locs ls hP hD hS hl
  obtain ⟨ls', e', h'⟩ := lh_store1 (v := .int (iI (z + n))) (i := 10) hl (by simp) rfl (lh_c1 (lo := (a0 :: a1 :: a2 :: a3 :: a4 :: a5 :: a6 :: a7 :: a8 :: a9 :: some (.int (iI z)) :: r)) (i := 10) (Or.inr ⟨9, _, rfl, rfl, h1⟩))
  have hg : ls[10]? = some (.val (.int (iI z))) := hl.2.2 10 _ rfl
  have e2 : iI z + Int32.ofInt n = iI (z + n) := iI_add z n
  intro T hT X
  obtain ⟨t, a, b⟩ := k H locs ls' hP hD hS h' T hT X
  refine ⟨t, ?_, b⟩
  rw [← e2] at e'
  jvm_step X.here [X.here.top, hx, hb, d, hg, e']
  exact a
theorem r_iinc11 {G : zG} {cc : ByteArray} {own : String} {ret : Option FieldType} {nL fr lc : Nat} (C : zC G cc own ret nL fr lc) {M : zM} {r : List (Option Value)} {st : List Value} {pc : Nat} {a0 a1 a2 a3 a4 a5 a6 a7 a8 a9 a10 : Option Value} {z n : Int} (h1 : zc1 a10 = true) (d : decode cc pc = .ok (.iinc 11 n, 3)) (k : VJ G M (pc + 3) (a0 :: a1 :: a2 :: a3 :: a4 :: a5 :: a6 :: a7 :: a8 :: a9 :: a10 :: some (.int (iI (z + n))) :: r) st) : VJ G M pc (a0 :: a1 :: a2 :: a3 :: a4 :: a5 :: a6 :: a7 :: a8 :: a9 :: a10 :: some (.int (iI z)) :: r) st := by
  obtain ⟨sd, E, P, l, p, e, R, s, m, args, below, meth, c⟩ := G
  obtain ⟨hx, hb, hr, hml, hown, hts, hK, hN, hlk, hR⟩ := C
  intro H locs ls hP hD hS hl
  obtain ⟨ls', e', h'⟩ := lh_store1 (v := .int (iI (z + n))) (i := 11) hl (by simp) rfl (lh_c1 (lo := (a0 :: a1 :: a2 :: a3 :: a4 :: a5 :: a6 :: a7 :: a8 :: a9 :: a10 :: some (.int (iI z)) :: r)) (i := 11) (Or.inr ⟨10, _, rfl, rfl, h1⟩))
  have hg : ls[11]? = some (.val (.int (iI z))) := hl.2.2 11 _ rfl
  have e2 : iI z + Int32.ofInt n = iI (z + n) := iI_add z n
  intro T hT X
  obtain ⟨t, a, b⟩ := k H locs ls' hP hD hS h' T hT X
  refine ⟨t, ?_, b⟩
  rw [← e2] at e'
  jvm_step X.here [X.here.top, hx, hb, d, hg, e']
  exact a
theorem r_iinc12 {G : zG} {cc : ByteArray} {own : String} {ret : Option FieldType} {nL fr lc : Nat} (C : zC G cc own ret nL fr lc) {M : zM} {r : List (Option Value)} {st : List Value} {pc : Nat} {a0 a1 a2 a3 a4 a5 a6 a7 a8 a9 a10 a11 : Option Value} {z n : Int} (h1 : zc1 a11 = true) (d : decode cc pc = .ok (.iinc 12 n, 3)) (k : VJ G M (pc + 3) (a0 :: a1 :: a2 :: a3 :: a4 :: a5 :: a6 :: a7 :: a8 :: a9 :: a10 :: a11 :: some (.int (iI (z + n))) :: r) st) : VJ G M pc (a0 :: a1 :: a2 :: a3 :: a4 :: a5 :: a6 :: a7 :: a8 :: a9 :: a10 :: a11 :: some (.int (iI z)) :: r) st := by
  obtain ⟨sd, E, P, l, p, e, R, s, m, args, below, meth, c⟩ := G
  obtain ⟨hx, hb, hr, hml, hown, hts, hK, hN, hlk, hR⟩ := C
  intro H locs ls hP hD hS hl
  obtain ⟨ls', e', h'⟩ := lh_store1 (v := .int (iI (z + n))) (i := 12) hl (by simp) rfl (lh_c1 (lo := (a0 :: a1 :: a2 :: a3 :: a4 :: a5 :: a6 :: a7 :: a8 :: a9 :: a10 :: a11 :: some (.int (iI z)) :: r)) (i := 12) (Or.inr ⟨11, _, rfl, rfl, h1⟩))
  have hg : ls[12]? = some (.val (.int (iI z))) := hl.2.2 12 _ rfl
  have e2 : iI z + Int32.ofInt n = iI (z + n) := iI_add z n
  intro T hT X
  obtain ⟨t, a, b⟩ := k H locs ls' hP hD hS h' T hT X
  refine ⟨t, ?_, b⟩
  rw [← e2] at e'
  jvm_step X.here [X.here.top, hx, hb, d, hg, e']
  exact a
theorem r_icmp_eq {G : zG} {cc : ByteArray} {own : String} {ret : Option FieldType} {nL fr lc : Nat} (C : zC G cc own ret nL fr lc) {M : zM} {lo : List (Option Value)} {st : List Value} {pc : Nat} {a b : Int} (ha : -2147483648 ≤ a ∧ a < 2147483648) (hb0 : -2147483648 ≤ b ∧ b < 2147483648) {off : Int} {tgt : Nat} (d : decode cc pc = .ok (.if_icmp .eq off, 3)) (ht : (pc : Int) + off = (tgt : Int)) (kt : a = b → VJ G M tgt lo st) (kf : ¬ (a = b) → VJ G M (pc + 3) lo st) : VJ G M pc lo (.int (iI b) :: .int (iI a) :: st) := by
  obtain ⟨sd, E, P, l, p, e, R, s, m, args, below, meth, c⟩ := G
  obtain ⟨hx, hb, hr, hml, hown, hts, hK, hN, hlk, hR⟩ := C
  intro H locs ls hP hD hS hl
  exact lv_icmp_eq hx hb d ht (fun q => kt ((iI_eq ha hb0).mp q) H locs ls hP hD hS hl) (fun q => kf (fun z => q ((iI_eq ha hb0).mpr z)) H locs ls hP hD hS hl)
theorem r_if_eq {G : zG} {cc : ByteArray} {own : String} {ret : Option FieldType} {nL fr lc : Nat} (C : zC G cc own ret nL fr lc) {M : zM} {lo : List (Option Value)} {st : List Value} {pc : Nat} {a : Int} (ha : -2147483648 ≤ a ∧ a < 2147483648) {off : Int} {tgt : Nat} (d : decode cc pc = .ok (.ifCond .eq off, 3)) (ht : (pc : Int) + off = (tgt : Int)) (kt : a = 0 → VJ G M tgt lo st) (kf : ¬ (a = 0) → VJ G M (pc + 3) lo st) : VJ G M pc lo (.int (iI a) :: st) := by
  obtain ⟨sd, E, P, l, p, e, R, s, m, args, below, meth, c⟩ := G
  obtain ⟨hx, hb, hr, hml, hown, hts, hK, hN, hlk, hR⟩ := C
  intro H locs ls hP hD hS hl
  exact lv_if_eq hx hb d ht (fun q => kt ((iI_eq (b := 0) ha (by decide)).mp q) H locs ls hP hD hS hl) (fun q => kf (fun z => q ((iI_eq (b := 0) ha (by decide)).mpr z)) H locs ls hP hD hS hl)
theorem r_lcmp_eq {G : zG} {cc : ByteArray} {own : String} {ret : Option FieldType} {nL fr lc : Nat} (C : zC G cc own ret nL fr lc) {M : zM} {lo : List (Option Value)} {st : List Value} {pc : Nat} {x y : Int64} {off : Int} {tgt : Nat} (d1 : decode cc pc = .ok (.lcmp, 1)) (d : decode cc (pc + 1) = .ok (.ifCond .eq off, 3)) (ht : ((pc + 1 : Nat) : Int) + off = (tgt : Int)) (kt : x = y → VJ G M tgt lo st) (kf : ¬ (x = y) → VJ G M (pc + 1 + 3) lo st) : VJ G M pc lo (.long y :: .long x :: st) := by
  obtain ⟨sd, E, P, l, p, e, R, s, m, args, below, meth, c⟩ := G
  obtain ⟨hx, hb, hr, hml, hown, hts, hK, hN, hlk, hR⟩ := C
  intro H locs ls hP hD hS hl
  refine W.lcmp hx hb d1 ?_
  exact lv_if_eq hx hb d ht (fun q => kt ((lg_cmp_eq x y).mp q) H locs ls hP hD hS hl) (fun q => kf (fun z => q ((lg_cmp_eq x y).mpr z)) H locs ls hP hD hS hl)
theorem r_icmp_ne {G : zG} {cc : ByteArray} {own : String} {ret : Option FieldType} {nL fr lc : Nat} (C : zC G cc own ret nL fr lc) {M : zM} {lo : List (Option Value)} {st : List Value} {pc : Nat} {a b : Int} (ha : -2147483648 ≤ a ∧ a < 2147483648) (hb0 : -2147483648 ≤ b ∧ b < 2147483648) {off : Int} {tgt : Nat} (d : decode cc pc = .ok (.if_icmp .ne off, 3)) (ht : (pc : Int) + off = (tgt : Int)) (kt : ¬ a = b → VJ G M tgt lo st) (kf : a = b → VJ G M (pc + 3) lo st) : VJ G M pc lo (.int (iI b) :: .int (iI a) :: st) := by
  obtain ⟨sd, E, P, l, p, e, R, s, m, args, below, meth, c⟩ := G
  obtain ⟨hx, hb, hr, hml, hown, hts, hK, hN, hlk, hR⟩ := C
  intro H locs ls hP hD hS hl
  exact lv_icmp_ne hx hb d ht (fun q => kt ((not_congr (iI_eq ha hb0)).mp q) H locs ls hP hD hS hl) (fun q => kf ((iI_eq ha hb0).mp q) H locs ls hP hD hS hl)
theorem r_if_ne {G : zG} {cc : ByteArray} {own : String} {ret : Option FieldType} {nL fr lc : Nat} (C : zC G cc own ret nL fr lc) {M : zM} {lo : List (Option Value)} {st : List Value} {pc : Nat} {a : Int} (ha : -2147483648 ≤ a ∧ a < 2147483648) {off : Int} {tgt : Nat} (d : decode cc pc = .ok (.ifCond .ne off, 3)) (ht : (pc : Int) + off = (tgt : Int)) (kt : ¬ a = 0 → VJ G M tgt lo st) (kf : a = 0 → VJ G M (pc + 3) lo st) : VJ G M pc lo (.int (iI a) :: st) := by
  obtain ⟨sd, E, P, l, p, e, R, s, m, args, below, meth, c⟩ := G
  obtain ⟨hx, hb, hr, hml, hown, hts, hK, hN, hlk, hR⟩ := C
  intro H locs ls hP hD hS hl
  exact lv_if_ne hx hb d ht (fun q => kt ((not_congr (iI_eq (b := 0) ha (by decide))).mp q) H locs ls hP hD hS hl) (fun q => kf ((iI_eq (b := 0) ha (by decide)).mp q) H locs ls hP hD hS hl)
theorem r_lcmp_ne {G : zG} {cc : ByteArray} {own : String} {ret : Option FieldType} {nL fr lc : Nat} (C : zC G cc own ret nL fr lc) {M : zM} {lo : List (Option Value)} {st : List Value} {pc : Nat} {x y : Int64} {off : Int} {tgt : Nat} (d1 : decode cc pc = .ok (.lcmp, 1)) (d : decode cc (pc + 1) = .ok (.ifCond .ne off, 3)) (ht : ((pc + 1 : Nat) : Int) + off = (tgt : Int)) (kt : ¬ x = y → VJ G M tgt lo st) (kf : x = y → VJ G M (pc + 1 + 3) lo st) : VJ G M pc lo (.long y :: .long x :: st) := by
  obtain ⟨sd, E, P, l, p, e, R, s, m, args, below, meth, c⟩ := G
  obtain ⟨hx, hb, hr, hml, hown, hts, hK, hN, hlk, hR⟩ := C
  intro H locs ls hP hD hS hl
  refine W.lcmp hx hb d1 ?_
  exact lv_if_ne hx hb d ht (fun q => kt ((not_congr (lg_cmp_eq x y)).mp q) H locs ls hP hD hS hl) (fun q => kf ((lg_cmp_eq x y).mp q) H locs ls hP hD hS hl)
theorem r_icmp_lt {G : zG} {cc : ByteArray} {own : String} {ret : Option FieldType} {nL fr lc : Nat} (C : zC G cc own ret nL fr lc) {M : zM} {lo : List (Option Value)} {st : List Value} {pc : Nat} {a b : Int} (ha : -2147483648 ≤ a ∧ a < 2147483648) (hb0 : -2147483648 ≤ b ∧ b < 2147483648) {off : Int} {tgt : Nat} (d : decode cc pc = .ok (.if_icmp .lt off, 3)) (ht : (pc : Int) + off = (tgt : Int)) (kt : a < b → VJ G M tgt lo st) (kf : ¬ (a < b) → VJ G M (pc + 3) lo st) : VJ G M pc lo (.int (iI b) :: .int (iI a) :: st) := by
  obtain ⟨sd, E, P, l, p, e, R, s, m, args, below, meth, c⟩ := G
  obtain ⟨hx, hb, hr, hml, hown, hts, hK, hN, hlk, hR⟩ := C
  intro H locs ls hP hD hS hl
  exact lv_icmp_lt hx hb d ht (fun q => kt ((iI_lt ha hb0).mp q) H locs ls hP hD hS hl) (fun q => kf (fun z => q ((iI_lt ha hb0).mpr z)) H locs ls hP hD hS hl)
theorem r_if_lt {G : zG} {cc : ByteArray} {own : String} {ret : Option FieldType} {nL fr lc : Nat} (C : zC G cc own ret nL fr lc) {M : zM} {lo : List (Option Value)} {st : List Value} {pc : Nat} {a : Int} (ha : -2147483648 ≤ a ∧ a < 2147483648) {off : Int} {tgt : Nat} (d : decode cc pc = .ok (.ifCond .lt off, 3)) (ht : (pc : Int) + off = (tgt : Int)) (kt : a < 0 → VJ G M tgt lo st) (kf : ¬ (a < 0) → VJ G M (pc + 3) lo st) : VJ G M pc lo (.int (iI a) :: st) := by
  obtain ⟨sd, E, P, l, p, e, R, s, m, args, below, meth, c⟩ := G
  obtain ⟨hx, hb, hr, hml, hown, hts, hK, hN, hlk, hR⟩ := C
  intro H locs ls hP hD hS hl
  exact lv_if_lt hx hb d ht (fun q => kt ((iI_lt (b := 0) ha (by decide)).mp q) H locs ls hP hD hS hl) (fun q => kf (fun z => q ((iI_lt (b := 0) ha (by decide)).mpr z)) H locs ls hP hD hS hl)
theorem r_lcmp_lt {G : zG} {cc : ByteArray} {own : String} {ret : Option FieldType} {nL fr lc : Nat} (C : zC G cc own ret nL fr lc) {M : zM} {lo : List (Option Value)} {st : List Value} {pc : Nat} {x y : Int64} {off : Int} {tgt : Nat} (d1 : decode cc pc = .ok (.lcmp, 1)) (d : decode cc (pc + 1) = .ok (.ifCond .lt off, 3)) (ht : ((pc + 1 : Nat) : Int) + off = (tgt : Int)) (kt : x < y → VJ G M tgt lo st) (kf : ¬ (x < y) → VJ G M (pc + 1 + 3) lo st) : VJ G M pc lo (.long y :: .long x :: st) := by
  obtain ⟨sd, E, P, l, p, e, R, s, m, args, below, meth, c⟩ := G
  obtain ⟨hx, hb, hr, hml, hown, hts, hK, hN, hlk, hR⟩ := C
  intro H locs ls hP hD hS hl
  refine W.lcmp hx hb d1 ?_
  exact lv_if_lt hx hb d ht (fun q => kt ((lg_cmp_lt x y).mp q) H locs ls hP hD hS hl) (fun q => kf (fun z => q ((lg_cmp_lt x y).mpr z)) H locs ls hP hD hS hl)
theorem r_icmp_ge {G : zG} {cc : ByteArray} {own : String} {ret : Option FieldType} {nL fr lc : Nat} (C : zC G cc own ret nL fr lc) {M : zM} {lo : List (Option Value)} {st : List Value} {pc : Nat} {a b : Int} (ha : -2147483648 ≤ a ∧ a < 2147483648) (hb0 : -2147483648 ≤ b ∧ b < 2147483648) {off : Int} {tgt : Nat} (d : decode cc pc = .ok (.if_icmp .ge off, 3)) (ht : (pc : Int) + off = (tgt : Int)) (kt : b ≤ a → VJ G M tgt lo st) (kf : ¬ (b ≤ a) → VJ G M (pc + 3) lo st) : VJ G M pc lo (.int (iI b) :: .int (iI a) :: st) := by
  obtain ⟨sd, E, P, l, p, e, R, s, m, args, below, meth, c⟩ := G
  obtain ⟨hx, hb, hr, hml, hown, hts, hK, hN, hlk, hR⟩ := C
  intro H locs ls hP hD hS hl
  exact lv_icmp_ge hx hb d ht (fun q => kt ((iI_le hb0 ha).mp q) H locs ls hP hD hS hl) (fun q => kf (fun z => q ((iI_le hb0 ha).mpr z)) H locs ls hP hD hS hl)
theorem r_if_ge {G : zG} {cc : ByteArray} {own : String} {ret : Option FieldType} {nL fr lc : Nat} (C : zC G cc own ret nL fr lc) {M : zM} {lo : List (Option Value)} {st : List Value} {pc : Nat} {a : Int} (ha : -2147483648 ≤ a ∧ a < 2147483648) {off : Int} {tgt : Nat} (d : decode cc pc = .ok (.ifCond .ge off, 3)) (ht : (pc : Int) + off = (tgt : Int)) (kt : 0 ≤ a → VJ G M tgt lo st) (kf : ¬ (0 ≤ a) → VJ G M (pc + 3) lo st) : VJ G M pc lo (.int (iI a) :: st) := by
  obtain ⟨sd, E, P, l, p, e, R, s, m, args, below, meth, c⟩ := G
  obtain ⟨hx, hb, hr, hml, hown, hts, hK, hN, hlk, hR⟩ := C
  intro H locs ls hP hD hS hl
  exact lv_if_ge hx hb d ht (fun q => kt ((iI_le (a := 0) (by decide) ha).mp q) H locs ls hP hD hS hl) (fun q => kf (fun z => q ((iI_le (a := 0) (by decide) ha).mpr z)) H locs ls hP hD hS hl)
theorem r_lcmp_ge {G : zG} {cc : ByteArray} {own : String} {ret : Option FieldType} {nL fr lc : Nat} (C : zC G cc own ret nL fr lc) {M : zM} {lo : List (Option Value)} {st : List Value} {pc : Nat} {x y : Int64} {off : Int} {tgt : Nat} (d1 : decode cc pc = .ok (.lcmp, 1)) (d : decode cc (pc + 1) = .ok (.ifCond .ge off, 3)) (ht : ((pc + 1 : Nat) : Int) + off = (tgt : Int)) (kt : y ≤ x → VJ G M tgt lo st) (kf : ¬ (y ≤ x) → VJ G M (pc + 1 + 3) lo st) : VJ G M pc lo (.long y :: .long x :: st) := by
  obtain ⟨sd, E, P, l, p, e, R, s, m, args, below, meth, c⟩ := G
  obtain ⟨hx, hb, hr, hml, hown, hts, hK, hN, hlk, hR⟩ := C
  intro H locs ls hP hD hS hl
  refine W.lcmp hx hb d1 ?_
  exact lv_if_ge hx hb d ht (fun q => kt ((lg_cmp_ge x y).mp q) H locs ls hP hD hS hl) (fun q => kf (fun z => q ((lg_cmp_ge x y).mpr z)) H locs ls hP hD hS hl)
theorem r_icmp_gt {G : zG} {cc : ByteArray} {own : String} {ret : Option FieldType} {nL fr lc : Nat} (C : zC G cc own ret nL fr lc) {M : zM} {lo : List (Option Value)} {st : List Value} {pc : Nat} {a b : Int} (ha : -2147483648 ≤ a ∧ a < 2147483648) (hb0 : -2147483648 ≤ b ∧ b < 2147483648) {off : Int} {tgt : Nat} (d : decode cc pc = .ok (.if_icmp .gt off, 3)) (ht : (pc : Int) + off = (tgt : Int)) (kt : b < a → VJ G M tgt lo st) (kf : ¬ (b < a) → VJ G M (pc + 3) lo st) : VJ G M pc lo (.int (iI b) :: .int (iI a) :: st) := by
  obtain ⟨sd, E, P, l, p, e, R, s, m, args, below, meth, c⟩ := G
  obtain ⟨hx, hb, hr, hml, hown, hts, hK, hN, hlk, hR⟩ := C
  intro H locs ls hP hD hS hl
  exact lv_icmp_gt hx hb d ht (fun q => kt ((iI_lt hb0 ha).mp q) H locs ls hP hD hS hl) (fun q => kf (fun z => q ((iI_lt hb0 ha).mpr z)) H locs ls hP hD hS hl)
theorem r_if_gt {G : zG} {cc : ByteArray} {own : String} {ret : Option FieldType} {nL fr lc : Nat} (C : zC G cc own ret nL fr lc) {M : zM} {lo : List (Option Value)} {st : List Value} {pc : Nat} {a : Int} (ha : -2147483648 ≤ a ∧ a < 2147483648) {off : Int} {tgt : Nat} (d : decode cc pc = .ok (.ifCond .gt off, 3)) (ht : (pc : Int) + off = (tgt : Int)) (kt : 0 < a → VJ G M tgt lo st) (kf : ¬ (0 < a) → VJ G M (pc + 3) lo st) : VJ G M pc lo (.int (iI a) :: st) := by
  obtain ⟨sd, E, P, l, p, e, R, s, m, args, below, meth, c⟩ := G
  obtain ⟨hx, hb, hr, hml, hown, hts, hK, hN, hlk, hR⟩ := C
  intro H locs ls hP hD hS hl
  exact lv_if_gt hx hb d ht (fun q => kt ((iI_lt (a := 0) (by decide) ha).mp q) H locs ls hP hD hS hl) (fun q => kf (fun z => q ((iI_lt (a := 0) (by decide) ha).mpr z)) H locs ls hP hD hS hl)
theorem r_lcmp_gt {G : zG} {cc : ByteArray} {own : String} {ret : Option FieldType} {nL fr lc : Nat} (C : zC G cc own ret nL fr lc) {M : zM} {lo : List (Option Value)} {st : List Value} {pc : Nat} {x y : Int64} {off : Int} {tgt : Nat} (d1 : decode cc pc = .ok (.lcmp, 1)) (d : decode cc (pc + 1) = .ok (.ifCond .gt off, 3)) (ht : ((pc + 1 : Nat) : Int) + off = (tgt : Int)) (kt : y < x → VJ G M tgt lo st) (kf : ¬ (y < x) → VJ G M (pc + 1 + 3) lo st) : VJ G M pc lo (.long y :: .long x :: st) := by
  obtain ⟨sd, E, P, l, p, e, R, s, m, args, below, meth, c⟩ := G
  obtain ⟨hx, hb, hr, hml, hown, hts, hK, hN, hlk, hR⟩ := C
  intro H locs ls hP hD hS hl
  refine W.lcmp hx hb d1 ?_
  exact lv_if_gt hx hb d ht (fun q => kt ((lg_cmp_gt x y).mp q) H locs ls hP hD hS hl) (fun q => kf (fun z => q ((lg_cmp_gt x y).mpr z)) H locs ls hP hD hS hl)
theorem r_icmp_le {G : zG} {cc : ByteArray} {own : String} {ret : Option FieldType} {nL fr lc : Nat} (C : zC G cc own ret nL fr lc) {M : zM} {lo : List (Option Value)} {st : List Value} {pc : Nat} {a b : Int} (ha : -2147483648 ≤ a ∧ a < 2147483648) (hb0 : -2147483648 ≤ b ∧ b < 2147483648) {off : Int} {tgt : Nat} (d : decode cc pc = .ok (.if_icmp .le off, 3)) (ht : (pc : Int) + off = (tgt : Int)) (kt : a ≤ b → VJ G M tgt lo st) (kf : ¬ (a ≤ b) → VJ G M (pc + 3) lo st) : VJ G M pc lo (.int (iI b) :: .int (iI a) :: st) := by
  obtain ⟨sd, E, P, l, p, e, R, s, m, args, below, meth, c⟩ := G
  obtain ⟨hx, hb, hr, hml, hown, hts, hK, hN, hlk, hR⟩ := C
  intro H locs ls hP hD hS hl
  exact lv_icmp_le hx hb d ht (fun q => kt ((iI_le ha hb0).mp q) H locs ls hP hD hS hl) (fun q => kf (fun z => q ((iI_le ha hb0).mpr z)) H locs ls hP hD hS hl)
theorem r_if_le {G : zG} {cc : ByteArray} {own : String} {ret : Option FieldType} {nL fr lc : Nat} (C : zC G cc own ret nL fr lc) {M : zM} {lo : List (Option Value)} {st : List Value} {pc : Nat} {a : Int} (ha : -2147483648 ≤ a ∧ a < 2147483648) {off : Int} {tgt : Nat} (d : decode cc pc = .ok (.ifCond .le off, 3)) (ht : (pc : Int) + off = (tgt : Int)) (kt : a ≤ 0 → VJ G M tgt lo st) (kf : ¬ (a ≤ 0) → VJ G M (pc + 3) lo st) : VJ G M pc lo (.int (iI a) :: st) := by
  obtain ⟨sd, E, P, l, p, e, R, s, m, args, below, meth, c⟩ := G
  obtain ⟨hx, hb, hr, hml, hown, hts, hK, hN, hlk, hR⟩ := C
  intro H locs ls hP hD hS hl
  exact lv_if_le hx hb d ht (fun q => kt ((iI_le (b := 0) ha (by decide)).mp q) H locs ls hP hD hS hl) (fun q => kf (fun z => q ((iI_le (b := 0) ha (by decide)).mpr z)) H locs ls hP hD hS hl)
theorem r_lcmp_le {G : zG} {cc : ByteArray} {own : String} {ret : Option FieldType} {nL fr lc : Nat} (C : zC G cc own ret nL fr lc) {M : zM} {lo : List (Option Value)} {st : List Value} {pc : Nat} {x y : Int64} {off : Int} {tgt : Nat} (d1 : decode cc pc = .ok (.lcmp, 1)) (d : decode cc (pc + 1) = .ok (.ifCond .le off, 3)) (ht : ((pc + 1 : Nat) : Int) + off = (tgt : Int)) (kt : x ≤ y → VJ G M tgt lo st) (kf : ¬ (x ≤ y) → VJ G M (pc + 1 + 3) lo st) : VJ G M pc lo (.long y :: .long x :: st) := by
  obtain ⟨sd, E, P, l, p, e, R, s, m, args, below, meth, c⟩ := G
  obtain ⟨hx, hb, hr, hml, hown, hts, hK, hN, hlk, hR⟩ := C
  intro H locs ls hP hD hS hl
  refine W.lcmp hx hb d1 ?_
  exact lv_if_le hx hb d ht (fun q => kt ((lg_cmp_le x y).mp q) H locs ls hP hD hS hl) (fun q => kf (fun z => q ((lg_cmp_le x y).mpr z)) H locs ls hP hD hS hl)
theorem r_ifeqB {G : zG} {cc : ByteArray} {own : String} {ret : Option FieldType} {nL fr lc : Nat} (C : zC G cc own ret nL fr lc) {M : zM} {lo : List (Option Value)} {st : List Value} {pc : Nat} {B : Prop} [Decidable B] {off : Int} {tgt : Nat} (d : decode cc pc = .ok (.ifCond .eq off, 3)) (ht : (pc : Int) + off = (tgt : Int)) (kt : ¬ B → VJ G M tgt lo st) (kf : B → VJ G M (pc + 3) lo st) : VJ G M pc lo (.int (iI (zb B)) :: st) := by
  refine r_if_eq C (by rcases zb_01 B with h | h <;> rw [h] <;> decide) d ht (fun q => kt (fun b => by rw [zb_pos b] at q; exact absurd q (by decide))) (fun q => kf (Classical.byContradiction fun b => q (zb_neg b)))
theorem r_ifneB {G : zG} {cc : ByteArray} {own : String} {ret : Option FieldType} {nL fr lc : Nat} (C : zC G cc own ret nL fr lc) {M : zM} {lo : List (Option Value)} {st : List Value} {pc : Nat} {B : Prop} [Decidable B] {off : Int} {tgt : Nat} (d : decode cc pc = .ok (.ifCond .ne off, 3)) (ht : (pc : Int) + off = (tgt : Int)) (kt : B → VJ G M tgt lo st) (kf : ¬ B → VJ G M (pc + 3) lo st) : VJ G M pc lo (.int (iI (zb B)) :: st) := by
  refine r_if_ne C (by rcases zb_01 B with h | h <;> rw [h] <;> decide) d ht (fun q => kt (Classical.byContradiction fun b => q (zb_neg b))) (fun q => kf (fun b => by rw [zb_pos b] at q; exact absurd q (by decide)))
theorem r_goto {G : zG} {cc : ByteArray} {own : String} {ret : Option FieldType} {nL fr lc : Nat} (C : zC G cc own ret nL fr lc) {M : zM} {lo : List (Option Value)} {st : List Value} {pc : Nat} {off : Int} {tgt : Nat} (d : decode cc pc = .ok (.goto off, 3)) (ht : (pc : Int) + off = (tgt : Int)) (k : VJ G M tgt lo st) : VJ G M pc lo st := by
  obtain ⟨sd, E, P, l, p, e, R, s, m, args, below, meth, c⟩ := G
  obtain ⟨hx, hb, hr, hml, hown, hts, hK, hN, hlk, hR⟩ := C
  intro H locs ls hP hD hS hl
  exact lv_goto hx hb d ht (k H locs ls hP hD hS hl)
theorem r_tabIn {G : zG} {cc : ByteArray} {own : String} {ret : Option FieldType} {nL fr lc : Nat} (C : zC G cc own ret nL fr lc) {M : zM} {lo : List (Option Value)} {st : List Value} {pc : Nat} {a : Int} (ha : -2147483648 ≤ a ∧ a < 2147483648) {dflt low hi : Int} {offs : Array Int} {len : Nat} {off : Int} {tgt : Nat} (d : decode cc pc = .ok (.tableswitch dflt low hi offs, len)) (h1 : low ≤ a) (h2 : a ≤ hi) (ho : offs[(a - low).toNat]? = some off) (ht : (pc : Int) + off = (tgt : Int)) (k : VJ G M tgt lo st) : VJ G M pc lo (.int (iI a) :: st) := by
  obtain ⟨sd, E, P, l, p, e, R, s, m, args, below, meth, c⟩ := G
  obtain ⟨hx, hb, hr, hml, hown, hts, hK, hN, hlk, hR⟩ := C
  intro H locs ls hP hD hS hl
  exact lv_tableIn hx hb d (by rw [iI_toInt ha]; omega) (by rw [iI_toInt ha]; omega) (by rw [iI_toInt ha]; exact ho) ht (k H locs ls hP hD hS hl)
theorem r_tabOut {G : zG} {cc : ByteArray} {own : String} {ret : Option FieldType} {nL fr lc : Nat} (C : zC G cc own ret nL fr lc) {M : zM} {lo : List (Option Value)} {st : List Value} {pc : Nat} {a : Int} (ha : -2147483648 ≤ a ∧ a < 2147483648) {dflt low hi : Int} {offs : Array Int} {len : Nat} {tgt : Nat} (d : decode cc pc = .ok (.tableswitch dflt low hi offs, len)) (h : a < low ∨ hi < a) (ht : (pc : Int) + dflt = (tgt : Int)) (k : VJ G M tgt lo st) : VJ G M pc lo (.int (iI a) :: st) := by
  obtain ⟨sd, E, P, l, p, e, R, s, m, args, below, meth, c⟩ := G
  obtain ⟨hx, hb, hr, hml, hown, hts, hK, hN, hlk, hR⟩ := C
  intro H locs ls hP hD hS hl
  exact lv_tableOut hx hb d (by rw [iI_toInt ha]; exact h) ht (k H locs ls hP hD hS hl)
theorem r_iret {G : zG} {cc : ByteArray} {own : String} {nL fr lc : Nat} (C : zC G cc own (some .int) nL fr lc) {M : zM} {lo : List (Option Value)} {st : List Value} {pc : Nat} {p0 : Int → zM → Prop} {z : Int} (hQ : G.2.2.1 = zPi p0) (h : p0 z M) (d : decode cc pc = .ok (.ireturn, 1)) : VJ G M pc lo [.int (iI z)] := by
  obtain ⟨sd, E, P, l, p, e, R, s, m, args, below, meth, c⟩ := G
  obtain ⟨hx, hb, hr, hml, hown, hts, hK, hN, hlk, hR⟩ := C
  intro H locs ls hP hD hS hl
  have hQ : P = zPi p0 := hQ
  subst hQ
  exact W.iret (v := iI z) hx hb hr (fun t ht hW => ⟨⟨_, M, rfl, ⟨z, rfl, h⟩, by rw [ht]; exact hP, hD, va_K.moved hW.alike hK, hN.warm hW⟩, hS.F ht⟩) hS.2.2 d
theorem r_zret {G : zG} {cc : ByteArray} {own : String} {nL fr lc : Nat} (C : zC G cc own (some .boolean) nL fr lc) {M : zM} {lo : List (Option Value)} {st : List Value} {pc : Nat} {p0 : Int → zM → Prop} {z : Int} (hQ : G.2.2.1 = zPi p0) (h01 : z = 0 ∨ z = 1) (h : p0 z M) (d : decode cc pc = .ok (.ireturn, 1)) : VJ G M pc lo [.int (iI z)] := by
  obtain ⟨sd, E, P, l, p, e, R, s, m, args, below, meth, c⟩ := G
  obtain ⟨hx, hb, hr, hml, hown, hts, hK, hN, hlk, hR⟩ := C
  intro H locs ls hP hD hS hl
  have hQ : P = zPi p0 := hQ
  subst hQ
  exact W.zret (v := iI z) (ty := .boolean) hx hb hr (by rcases h01 with rfl | rfl <;> rfl) (fun t ht hW => ⟨⟨_, M, rfl, ⟨z, rfl, h⟩, by rw [ht]; exact hP, hD, va_K.moved hW.alike hK, hN.warm hW⟩, hS.F ht⟩) hS.2.2 d
theorem r_lret {G : zG} {cc : ByteArray} {own : String} {nL fr lc : Nat} (C : zC G cc own (some .long) nL fr lc) {M : zM} {lo : List (Option Value)} {st : List Value} {pc : Nat} {p0 : Int64 → zM → Prop} {x : Int64} (hQ : G.2.2.1 = zPl p0) (h : p0 x M) (d : decode cc pc = .ok (.lreturn, 1)) : VJ G M pc lo [.long x] := by
  obtain ⟨sd, E, P, l, p, e, R, s, m, args, below, meth, c⟩ := G
  obtain ⟨hx, hb, hr, hml, hown, hts, hK, hN, hlk, hR⟩ := C
  intro H locs ls hP hD hS hl
  have hQ : P = zPl p0 := hQ
  subst hQ
  exact W.lret (v := x) hx hb hr (fun t ht hW => ⟨⟨_, M, rfl, ⟨x, rfl, h⟩, by rw [ht]; exact hP, hD, va_K.moved hW.alike hK, hN.warm hW⟩, hS.F ht⟩) hS.2.2 d
theorem r_vret {G : zG} {cc : ByteArray} {own : String} {nL fr lc : Nat} (C : zC G cc own none nL fr lc) {M : zM} {lo : List (Option Value)} {st : List Value} {pc : Nat} {p0 : zM → Prop} (hQ : G.2.2.1 = zPv p0) (h : p0 M) (d : decode cc pc = .ok (.return_, 1)) : VJ G M pc lo [] := by
  obtain ⟨sd, E, P, l, p, e, R, s, m, args, below, meth, c⟩ := G
  obtain ⟨hx, hb, hr, hml, hown, hts, hK, hN, hlk, hR⟩ := C
  intro H locs ls hP hD hS hl
  have hQ : P = zPv p0 := hQ
  subst hQ
  exact W.vret hx hb hr (fun t ht hW => ⟨⟨_, M, rfl, ⟨rfl, h⟩, by rw [ht]; exact hP, hD, va_K.moved hW.alike hK, hN.warm hW⟩, hS.F ht⟩) hS.2.2 d
end
section
theorem fsO_at {E : zE} {I : Nat → Int} {J : Nat → Int64} {ds : List (Nat × Nat)} {i : Nat} {d : Nat × Nat} (h : ds[i]? = some d) : (fsO E I J ds)[i]? = some (fv E I J d i) := by
  have hl : i < ds.length := (List.getElem?_eq_some_iff.mp h).1
  unfold fsO
  rw [List.getElem?_map, List.getElem?_range hl]
  simp [List.getD, h]
theorem fsO_len {E : zE} {I : Nat → Int} {J : Nat → Int64} {ds : List (Nat × Nat)} : (fsO E I J ds).length = ds.length := by simp [fsO]
theorem fsO_set {E : zE} {I I' : Nat → Int} {J J' : Nat → Int64} {ds : List (Nat × Nat)} {i : Nat} {d : Nat × Nat} (h : ds[i]? = some d) (hI : ∀ j, j ≠ i → I' j = I j) (hJ : ∀ j, j ≠ i → J' j = J j) : fsO E I' J' ds = (fsO E I J ds).set i (fv E I' J' d i) := by
  have hl : i < ds.length := (List.getElem?_eq_some_iff.mp h).1
  apply List.ext_getElem?
  intro j
  by_cases e : j = i
  · subst e
    rw [List.getElem?_set_self (by rw [fsO_len]; exact hl), fsO_at h]
  · rw [List.getElem?_set_ne (fun q => e q.symm)]
    by_cases hj : j < ds.length
    · have hg : ds[j]? = some ds[j] := List.getElem?_eq_getElem hj
      rw [fsO_at hg, fsO_at hg]
      unfold fv
      rw [hI j e, hJ j e]
    · rw [List.getElem?_eq_none (by rw [fsO_len]; omega), List.getElem?_eq_none (by rw [fsO_len]; omega)]
theorem zI_same (M : zM) (k i : Nat) (z : Int) : (zI M k i z).1 k i = z := by simp [zI]
theorem zI_row {M : zM} {k i j : Nat} {z : Int} (h : j ≠ i) : (zI M k i z).1 k j = M.1 k j := by simp [zI, h]
theorem zI_ne {M : zM} {k i a b : Nat} {z : Int} (h : a ≠ k) : (zI M k i z).1 a b = M.1 a b := by simp [zI, h]
theorem zI_2 (M : zM) (k i : Nat) (z : Int) : (zI M k i z).2 = M.2 := rfl
theorem zJ_same (M : zM) (k i : Nat) (x : Int64) : (zJ M k i x).2 k i = x := by simp [zJ]
theorem zJ_row {M : zM} {k i j : Nat} {x : Int64} (h : j ≠ i) : (zJ M k i x).2 k j = M.2 k j := by simp [zJ, h]
theorem zJ_ne {M : zM} {k i a b : Nat} {x : Int64} (h : a ≠ k) : (zJ M k i x).2 a b = M.2 a b := by simp [zJ, h]
theorem zJ_1 (M : zM) (k i : Nat) (x : Int64) : (zJ M k i x).1 = M.1 := rfl
theorem zI_at (M : zM) (k i a b : Nat) (z : Int) : (zI M k i z).1 a b = if a = k ∧ b = i then z else M.1 a b := rfl
theorem zJ_at (M : zM) (k i a b : Nat) (x : Int64) : (zJ M k i x).2 a b = if a = k ∧ b = i then x else M.2 a b := rfl
theorem zce_I {sd : zSd} {E : zE} {M : zM} {k i j : Nat} {z : Int} (h : j ≠ k) : zce sd E (zI M k i z) j = zce sd E M j := by
  have e : (zI M k i z).1 j = M.1 j := funext fun b => zI_ne h
  unfold zce
  rw [e, zI_2]
theorem zce_J {sd : zSd} {E : zE} {M : zM} {k i j : Nat} {x : Int64} (h : j ≠ k) : zce sd E (zJ M k i x) j = zce sd E M j := by
  have e : (zJ M k i x).2 j = M.2 j := funext fun b => zJ_ne h
  unfold zce
  rw [e, zJ_1]
theorem zce_o {sd : zSd} {E : zE} {M : zM} {k ci : Nat} (h : sd.2.1 k = (5 + ci, 0)) : zce sd E M k = .inr (ci, fsO E (M.1 k) (M.2 k) (sd.2.2.1 k)) := by
  unfold zce
  rw [h]
  rw [if_neg (by show ¬ 5 + ci = 0; omega), if_neg (by show ¬ 5 + ci = 1; omega), if_neg (by show ¬ 5 + ci = 2; omega), if_neg (by show ¬ 5 + ci = 3; omega), if_neg (by show ¬ 5 + ci = 4; omega)]
  show Sum.inr (5 + ci - 5, _) = _
  rw [Nat.add_sub_cancel_left]
theorem zce_i {sd : zSd} {E : zE} {M : zM} {k n : Nat} (h : sd.2.1 k = (0, n)) : zce sd E M k = .inl (E.2.1 0, n, .inl (fun i => iI (M.1 k i))) := by
  unfold zce; rw [h]; rfl
theorem zce_z {sd : zSd} {E : zE} {M : zM} {k n : Nat} (h : sd.2.1 k = (1, n)) : zce sd E M k = .inl (E.2.1 1, n, .inl (fun i => iI (M.1 k i))) := by
  unfold zce; rw [h]; rfl
theorem zce_l {sd : zSd} {E : zE} {M : zM} {k n : Nat} (h : sd.2.1 k = (2, n)) : zce sd E M k = .inl (E.2.1 2, n, .inr (.inl (fun i => M.2 k i))) := by
  unfold zce; rw [h]; rfl
theorem zce_b {sd : zSd} {E : zE} {M : zM} {k n : Nat} (h : sd.2.1 k = (3, n)) : zce sd E M k = .inl (E.2.1 3, n, .inr (.inr (.inr (.inr (fun i => some (E.2.2 (sd.2.2.2 k i))))))) := by
  unfold zce; rw [h]; rfl
theorem zce_r {sd : zSd} {E : zE} {M : zM} {k n : Nat} (h : sd.2.1 k = (4, n)) : zce sd E M k = .inl (E.2.1 4, n, .inr (.inr (.inr (.inr (fun i => some (E.2.2 (sd.2.2.2 k i))))))) := by
  unfold zce; rw [h]; rfl
theorem iI_upd {I : Nat → Int} {n : Nat} {z : Int} : upd (fun i => iI (I i)) n (iI z) = fun i => iI (if i = n then z else I i) := by
  funext j
  by_cases h : j = n
  · simp [upd, h]
  · simp [upd, h]
/-- a field is read -/
theorem z_get {G : zG} {cc : ByteArray} {own : String} {ret : Option FieldType} {nL fr lc : Nat} (C : zC G cc own ret nL fr lc) {M : zM} {lo : List (Option Value)} {st : List Value} {pc : Nat} {k ci slot idx Nf : Nat} {Cn : String} {T : u_T} {fd : Nat × Nat} (hk : k < G.1.1) (hs : G.1.2.1 k = (5 + ci, 0)) (hd : (G.1.2.2.1 k)[slot]? = some fd) (hci : zcl[ci]? = some (Cn, T, Nf)) (hlay : ∀ w ∈ u_ws Cn T Nf, w ∈ tb) (hsl : slot < Nf) (hlink : Cond.fieldLink own idx (T slot).1 (T slot).2.1 (T slot).2.2.1 ∈ tb) (d : decode cc pc = .ok (.getfield idx, 3)) (kk : VJ G M (pc + 3) lo (fv G.2.1 (M.1 k) (M.2 k) fd slot :: st)) : VJ G M pc lo (.ref (zad G k) :: st) := by
  obtain ⟨sd, E, P, l, p, e, R, s, m, args, below, meth, c⟩ := G
  obtain ⟨hx, hb, hr, hml, hown, hts, hK, hN, hlk, hR⟩ := C
  intro H locs ls hP hD hS hl
  have he : (zw sd E M)[k]? = some (E.2.2 k, .inr (ci, fsO E (M.1 k) (M.2 k) (sd.2.2.1 k))) := by rw [zw_at hk, zce_o hs]
  exact va_get (D := E.1) (ci := ci) (C := Cn) (T := T) (N := Nf) hx hb hts hlay hown hK hP k he hci slot hsl (hts _ hlink) (fun _ h => h) (fsO_at hd) d (kk H locs ls hP hD hS ‹_›)
/-- a field is written: an int, or a boolean -/
theorem z_putI {G : zG} {cc : ByteArray} {own : String} {ret : Option FieldType} {nL fr lc : Nat} (C : zC G cc own ret nL fr lc) {M : zM} {lo : List (Option Value)} {st : List Value} {pc : Nat} {k ci slot idx Nf : Nat} {Cn : String} {T : u_T} {x : Nat} {z : Int} {ty0 : Nat → FieldType} {ty : FieldType} (hk : k < G.1.1) (hs : G.1.2.1 k = (5 + ci, 0)) (hd : (G.1.2.2.1 k)[slot]? = some (0, x)) (hci : zcl[ci]? = some (Cn, T, Nf)) (hlay : ∀ w ∈ u_ws Cn T Nf, w ∈ tb) (hty : ∀ k, k < Nf → parseFieldDescriptor (T k).2.2.1 = some (ty0 k)) (hnm : ∀ a, a < Nf → ∀ b, b < Nf → a ≠ b → (T a).2.1 ≠ (T b).2.1) (hsl : slot < Nf) (hfin : (T slot).2.2.2 = false) (hpd : parseFieldDescriptor (T slot).2.2.1 = some ty) (hn : narrow ty (.int (iI z)) = .int (iI z)) (hfit : fits ty (.int (iI z)) = true) (hlink : Cond.fieldLink own idx (T slot).1 (T slot).2.1 (T slot).2.2.1 ∈ tb) (d : decode cc pc = .ok (.putfield idx, 3)) (kk : VJ G (zI M k slot z) (pc + 3) lo st) : VJ G M pc lo (.int (iI z) :: .ref (zad G k) :: st) := by
  obtain ⟨sd, E, P, l, p, e, R, s, m, args, below, meth, c⟩ := G
  obtain ⟨hx, hb, hr, hml, hown, hts, hK, hN, hlk, hR⟩ := C
  intro H locs ls hP hD hS hl
  have he : (zw sd E M)[k]? = some (E.2.2 k, .inr (ci, fsO E (M.1 k) (M.2 k) (sd.2.2.1 k))) := by rw [zw_at hk, zce_o hs]
  have hll : slot < (fsO E (M.1 k) (M.2 k) (sd.2.2.1 k)).length := by rw [fsO_len]; exact (List.getElem?_eq_some_iff.mp hd).1
  refine va_put (D := E.1) (ci := ci) (C := Cn) (T := T) (N := Nf) (v := .int (iI z)) hx hb hts hlay ty0 hty hnm hown hK hP hD hS k he hci slot hsl (hts _ hlink) (fun _ h => h) hfin hpd hn hfit hll d (fun H1 locs1 hP1 hD1 hS1 => ?_)
  have e : (zw sd E M).set k (E.2.2 k, .inr (ci, (fsO E (M.1 k) (M.2 k) (sd.2.2.1 k)).set slot (.int (iI z)))) = zw sd E (zI M k slot z) := by
    rw [← zw_set (M' := zI M k slot z) hk (fun j hj => zce_I hj), zce_o hs]
    rw [fsO_set (I := M.1 k) (J := M.2 k) hd (fun j hj => zI_row hj) (fun j _ => by rw [zI_2])]
    have e3 : fv E (fun j => (zI M k slot z).1 k j) (fun j => (zI M k slot z).2 k j) (0, x) slot = .int (iI z) := by
      show Value.int (iI ((zI M k slot z).1 k slot)) = _
      rw [zI_same]
    exact congrArg (fun q => (zw sd E M).set k (E.2.2 k, .inr (ci, (fsO E (M.1 k) (M.2 k) (sd.2.2.1 k)).set slot q))) e3.symm
  rw [e] at hP1 hD1
  exact kk H1 locs1 ls hP1 hD1 hS1 ‹_›
/-- a field is written: a long -/
theorem z_putJ {G : zG} {cc : ByteArray} {own : String} {ret : Option FieldType} {nL fr lc : Nat} (C : zC G cc own ret nL fr lc) {M : zM} {lo : List (Option Value)} {st : List Value} {pc : Nat} {k ci slot idx Nf : Nat} {Cn : String} {T : u_T} {x : Nat} {z : Int64} {ty0 : Nat → FieldType} (hk : k < G.1.1) (hs : G.1.2.1 k = (5 + ci, 0)) (hd : (G.1.2.2.1 k)[slot]? = some (2, x)) (hci : zcl[ci]? = some (Cn, T, Nf)) (hlay : ∀ w ∈ u_ws Cn T Nf, w ∈ tb) (hty : ∀ k, k < Nf → parseFieldDescriptor (T k).2.2.1 = some (ty0 k)) (hnm : ∀ a, a < Nf → ∀ b, b < Nf → a ≠ b → (T a).2.1 ≠ (T b).2.1) (hsl : slot < Nf) (hfin : (T slot).2.2.2 = false) (hpd : parseFieldDescriptor (T slot).2.2.1 = some .long) (hlink : Cond.fieldLink own idx (T slot).1 (T slot).2.1 (T slot).2.2.1 ∈ tb) (d : decode cc pc = .ok (.putfield idx, 3)) (kk : VJ G (zJ M k slot z) (pc + 3) lo st) : VJ G M pc lo (.long z :: .ref (zad G k) :: st) := by
  obtain ⟨sd, E, P, l, p, e, R, s, m, args, below, meth, c⟩ := G
  obtain ⟨hx, hb, hr, hml, hown, hts, hK, hN, hlk, hR⟩ := C
  intro H locs ls hP hD hS hl
  have he : (zw sd E M)[k]? = some (E.2.2 k, .inr (ci, fsO E (M.1 k) (M.2 k) (sd.2.2.1 k))) := by rw [zw_at hk, zce_o hs]
  have hll : slot < (fsO E (M.1 k) (M.2 k) (sd.2.2.1 k)).length := by rw [fsO_len]; exact (List.getElem?_eq_some_iff.mp hd).1
  refine va_put (D := E.1) (ci := ci) (C := Cn) (T := T) (N := Nf) (v := .long z) hx hb hts hlay ty0 hty hnm hown hK hP hD hS k he hci slot hsl (hts _ hlink) (fun _ h => h) hfin hpd rfl rfl hll d (fun H1 locs1 hP1 hD1 hS1 => ?_)
  have e : (zw sd E M).set k (E.2.2 k, .inr (ci, (fsO E (M.1 k) (M.2 k) (sd.2.2.1 k)).set slot (.long z))) = zw sd E (zJ M k slot z) := by
    rw [← zw_set (M' := zJ M k slot z) hk (fun j hj => zce_J hj), zce_o hs]
    rw [fsO_set (I := M.1 k) (J := M.2 k) hd (fun j _ => by rw [zJ_1]) (fun j hj => zJ_row hj)]
    have e3 : fv E (fun j => (zJ M k slot z).1 k j) (fun j => (zJ M k slot z).2 k j) (2, x) slot = .long z := by
      show Value.long ((zJ M k slot z).2 k slot) = _
      rw [zJ_same]
    exact congrArg (fun q => (zw sd E M).set k (E.2.2 k, .inr (ci, (fsO E (M.1 k) (M.2 k) (sd.2.2.1 k)).set slot q))) e3.symm
  rw [e] at hP1 hD1
  exact kk H1 locs1 ls hP1 hD1 hS1 ‹_›
theorem r_iald {G : zG} {cc : ByteArray} {own : String} {ret : Option FieldType} {nL fr lc : Nat} (C : zC G cc own ret nL fr lc) {M : zM} {lo : List (Option Value)} {st : List Value} {pc : Nat} {k n : Nat} {a : Int} (hs : G.1.2.1 k = (0, n)) (hk : k < G.1.1) (h0 : 0 ≤ a) (h1 : a < n) (hn : n < 2147483648) (d : decode cc pc = .ok (.iaload, 1)) (kk : VJ G M (pc + 1) lo (.int (iI (M.1 k a.toNat)) :: st)) : VJ G M pc lo (.int (iI a) :: .ref (zad G k) :: st) := by
  obtain ⟨sd, E, P, l, p, e, R, s, m, args, below, meth, c⟩ := G
  obtain ⟨hx, hb, hr, hml, hown, hts, hK, hN, hlk, hR⟩ := C
  intro H locs ls hP hD hS hl
  have he := (zw_at (sd := sd) (E := E) (M := M) hk).trans (congrArg (fun q => some (E.2.2 k, q)) (zce_i hs))
  obtain ⟨i1, i2⟩ := iI_in h0 h1 hn
  refine va_iald hx hb hK hP k 0 he rfl i1 d ?_
  rw [i2]
  exact kk H locs ls hP hD hS hl
theorem r_bald {G : zG} {cc : ByteArray} {own : String} {ret : Option FieldType} {nL fr lc : Nat} (C : zC G cc own ret nL fr lc) {M : zM} {lo : List (Option Value)} {st : List Value} {pc : Nat} {k n : Nat} {a : Int} (hs : G.1.2.1 k = (1, n)) (hk : k < G.1.1) (h0 : 0 ≤ a) (h1 : a < n) (hn : n < 2147483648) (d : decode cc pc = .ok (.baload, 1)) (kk : VJ G M (pc + 1) lo (.int (iI (M.1 k a.toNat)) :: st)) : VJ G M pc lo (.int (iI a) :: .ref (zad G k) :: st) := by
  obtain ⟨sd, E, P, l, p, e, R, s, m, args, below, meth, c⟩ := G
  obtain ⟨hx, hb, hr, hml, hown, hts, hK, hN, hlk, hR⟩ := C
  intro H locs ls hP hD hS hl
  have he := (zw_at (sd := sd) (E := E) (M := M) hk).trans (congrArg (fun q => some (E.2.2 k, q)) (zce_z hs))
  obtain ⟨i1, i2⟩ := iI_in h0 h1 hn
  refine va_zald hx hb hK hP k 1 he rfl i1 d ?_
  rw [i2]
  exact kk H locs ls hP hD hS hl
theorem r_lald {G : zG} {cc : ByteArray} {own : String} {ret : Option FieldType} {nL fr lc : Nat} (C : zC G cc own ret nL fr lc) {M : zM} {lo : List (Option Value)} {st : List Value} {pc : Nat} {k n : Nat} {a : Int} (hs : G.1.2.1 k = (2, n)) (hk : k < G.1.1) (h0 : 0 ≤ a) (h1 : a < n) (hn : n < 2147483648) (d : decode cc pc = .ok (.laload, 1)) (kk : VJ G M (pc + 1) lo (.long (M.2 k a.toNat) :: st)) : VJ G M pc lo (.int (iI a) :: .ref (zad G k) :: st) := by
  obtain ⟨sd, E, P, l, p, e, R, s, m, args, below, meth, c⟩ := G
  obtain ⟨hx, hb, hr, hml, hown, hts, hK, hN, hlk, hR⟩ := C
  intro H locs ls hP hD hS hl
  have he := (zw_at (sd := sd) (E := E) (M := M) hk).trans (congrArg (fun q => some (E.2.2 k, q)) (zce_l hs))
  obtain ⟨i1, i2⟩ := iI_in h0 h1 hn
  refine va_lald hx hb hK hP k 2 he rfl i1 d ?_
  rw [i2]
  exact kk H locs ls hP hD hS hl
theorem r_bmld {G : zG} {cc : ByteArray} {own : String} {ret : Option FieldType} {nL fr lc : Nat} (C : zC G cc own ret nL fr lc) {M : zM} {lo : List (Option Value)} {st : List Value} {pc : Nat} {k n : Nat} {a : Int} (hs : G.1.2.1 k = (3, n)) (hk : k < G.1.1) (h0 : 0 ≤ a) (h1 : a < n) (hn : n < 2147483648) (d : decode cc pc = .ok (.aaload, 1)) (kk : VJ G M (pc + 1) lo (.ref (zad G (G.1.2.2.2 k a.toNat)) :: st)) : VJ G M pc lo (.int (iI a) :: .ref (zad G k) :: st) := by
  obtain ⟨sd, E, P, l, p, e, R, s, m, args, below, meth, c⟩ := G
  obtain ⟨hx, hb, hr, hml, hown, hts, hK, hN, hlk, hR⟩ := C
  intro H locs ls hP hD hS hl
  have he := (zw_at (sd := sd) (E := E) (M := M) hk).trans (congrArg (fun q => some (E.2.2 k, q)) (zce_b hs))
  obtain ⟨i1, i2⟩ := iI_in h0 h1 hn
  refine va_aldq hx hb hK hP k 3 he rfl i1 d ?_
  rw [i2]
  exact kk H locs ls hP hD hS hl
theorem r_rwld {G : zG} {cc : ByteArray} {own : String} {ret : Option FieldType} {nL fr lc : Nat} (C : zC G cc own ret nL fr lc) {M : zM} {lo : List (Option Value)} {st : List Value} {pc : Nat} {k n : Nat} {a : Int} (hs : G.1.2.1 k = (4, n)) (hk : k < G.1.1) (h0 : 0 ≤ a) (h1 : a < n) (hn : n < 2147483648) (d : decode cc pc = .ok (.aaload, 1)) (kk : VJ G M (pc + 1) lo (.ref (zad G (G.1.2.2.2 k a.toNat)) :: st)) : VJ G M pc lo (.int (iI a) :: .ref (zad G k) :: st) := by
  obtain ⟨sd, E, P, l, p, e, R, s, m, args, below, meth, c⟩ := G
  obtain ⟨hx, hb, hr, hml, hown, hts, hK, hN, hlk, hR⟩ := C
  intro H locs ls hP hD hS hl
  have he := (zw_at (sd := sd) (E := E) (M := M) hk).trans (congrArg (fun q => some (E.2.2 k, q)) (zce_r hs))
  obtain ⟨i1, i2⟩ := iI_in h0 h1 hn
  have hlt : (iI a).toNatClampNeg < n := Nat.not_le.mp fun q => i1 (Or.inr q)
  refine W.aald (v := .ref (E.2.2 (sd.2.2.2 k (iI a).toNatClampNeg))) (ty := .array .int) hx hb (hP k _ he) ((hK.2 4 _ rfl).1 n (fun j => va_rf (some (E.2.2 (sd.2.2.2 k j))))) rfl (fun q => by cases q) (by show ¬ (iI a < 0 ∨ (arrV _ _ _).slots.size ≤ _); rw [arrV_size]; exact i1) (by show (arrV _ _ _).slots[_]? = _; rw [arrV_read _ _ hlt]; rfl) rfl rfl d ?_
  rw [i2]
  exact kk H locs ls hP hD hS hl
theorem r_iast {G : zG} {cc : ByteArray} {own : String} {ret : Option FieldType} {nL fr lc : Nat} (C : zC G cc own ret nL fr lc) {M : zM} {lo : List (Option Value)} {st : List Value} {pc : Nat} {k n : Nat} {a z : Int} (hs : G.1.2.1 k = (0, n)) (hk : k < G.1.1) (h0 : 0 ≤ a) (h1 : a < n) (hn : n < 2147483648) (d : decode cc pc = .ok (.iastore, 1)) (kk : VJ G (zI M k a.toNat z) (pc + 1) lo st) : VJ G M pc lo (.int (iI z) :: .int (iI a) :: .ref (zad G k) :: st) := by
  obtain ⟨sd, E, P, l, p, e, R, s, m, args, below, meth, c⟩ := G
  obtain ⟨hx, hb, hr, hml, hown, hts, hK, hN, hlk, hR⟩ := C
  intro H locs ls hP hD hS hl
  have he := (zw_at (sd := sd) (E := E) (M := M) hk).trans (congrArg (fun q => some (E.2.2 k, q)) (zce_i hs))
  obtain ⟨i1, i2⟩ := iI_in h0 h1 hn
  refine va_iast hx hb hK hP hD hS k 0 he rfl i1 d (fun H1 locs1 hP1 hD1 hS1 => ?_)
  rw [i2, iI_upd] at hP1 hD1
  have e : (zw sd E M).set k (E.2.2 k, .inl (E.2.1 0, n, .inl (fun i => iI (if i = a.toNat then z else M.1 k i)))) = zw sd E (zI M k a.toNat z) := by
    rw [← zw_set (M' := zI M k a.toNat z) hk (fun j hj => zce_I hj), zce_i hs]
    congr 6
    funext j
    rw [zI_at]
    by_cases q : j = a.toNat <;> simp [q]
  rw [e] at hP1 hD1
  exact kk H1 locs1 ls hP1 hD1 hS1 hl
theorem r_bast {G : zG} {cc : ByteArray} {own : String} {ret : Option FieldType} {nL fr lc : Nat} (C : zC G cc own ret nL fr lc) {M : zM} {lo : List (Option Value)} {st : List Value} {pc : Nat} {k n : Nat} {a z : Int} (hs : G.1.2.1 k = (1, n)) (hk : k < G.1.1) (h0 : 0 ≤ a) (h1 : a < n) (hn : n < 2147483648) (h01 : z = 0 ∨ z = 1) (d : decode cc pc = .ok (.bastore, 1)) (kk : VJ G (zI M k a.toNat z) (pc + 1) lo st) : VJ G M pc lo (.int (iI z) :: .int (iI a) :: .ref (zad G k) :: st) := by
  obtain ⟨sd, E, P, l, p, e, R, s, m, args, below, meth, c⟩ := G
  obtain ⟨hx, hb, hr, hml, hown, hts, hK, hN, hlk, hR⟩ := C
  intro H locs ls hP hD hS hl
  have he := (zw_at (sd := sd) (E := E) (M := M) hk).trans (congrArg (fun q => some (E.2.2 k, q)) (zce_z hs))
  obtain ⟨i1, i2⟩ := iI_in h0 h1 hn
  refine va_zast hx hb hK hP hD hS k 1 he rfl i1 d (fun H1 locs1 hP1 hD1 hS1 => ?_)
  have hz : vp_nar .boolean (iI z) = iI z := by rcases h01 with rfl | rfl <;> rfl
  rw [hz] at hP1 hD1
  rw [i2, iI_upd] at hP1 hD1
  have e : (zw sd E M).set k (E.2.2 k, .inl (E.2.1 1, n, .inl (fun i => iI (if i = a.toNat then z else M.1 k i)))) = zw sd E (zI M k a.toNat z) := by
    rw [← zw_set (M' := zI M k a.toNat z) hk (fun j hj => zce_I hj), zce_z hs]
    congr 6
    funext j
    rw [zI_at]
    by_cases q : j = a.toNat <;> simp [q]
  rw [e] at hP1 hD1
  exact kk H1 locs1 ls hP1 hD1 hS1 hl
theorem r_last {G : zG} {cc : ByteArray} {own : String} {ret : Option FieldType} {nL fr lc : Nat} (C : zC G cc own ret nL fr lc) {M : zM} {lo : List (Option Value)} {st : List Value} {pc : Nat} {k n : Nat} {a : Int} {z : Int64} (hs : G.1.2.1 k = (2, n)) (hk : k < G.1.1) (h0 : 0 ≤ a) (h1 : a < n) (hn : n < 2147483648) (d : decode cc pc = .ok (.lastore, 1)) (kk : VJ G (zJ M k a.toNat z) (pc + 1) lo st) : VJ G M pc lo (.long z :: .int (iI a) :: .ref (zad G k) :: st) := by
  obtain ⟨sd, E, P, l, p, e, R, s, m, args, below, meth, c⟩ := G
  obtain ⟨hx, hb, hr, hml, hown, hts, hK, hN, hlk, hR⟩ := C
  intro H locs ls hP hD hS hl
  have he := (zw_at (sd := sd) (E := E) (M := M) hk).trans (congrArg (fun q => some (E.2.2 k, q)) (zce_l hs))
  obtain ⟨i1, i2⟩ := iI_in h0 h1 hn
  refine va_last hx hb hK hP hD hS k 2 he rfl i1 d (fun H1 locs1 hP1 hD1 hS1 => ?_)
  rw [i2] at hP1 hD1
  have e : (zw sd E M).set k (E.2.2 k, .inl (E.2.1 2, n, .inr (.inl (vp_updL (fun i => M.2 k i) a.toNat z)))) = zw sd E (zJ M k a.toNat z) := by
    rw [← zw_set (M' := zJ M k a.toNat z) hk (fun j hj => zce_J hj), zce_l hs]
    congr 7
    funext j
    rw [zJ_at]
    by_cases q : j = a.toNat <;> simp [q, vp_updL]
  rw [e] at hP1 hD1
  exact kk H1 locs1 ls hP1 hD1 hS1 hl
theorem zK.blind {sd : zSd} {E : zE} {As : List Value} {M : zM} : FrameBlind (va_Pc As (fun U => zU sd E M U)) := by
  intro a U g mk q
  obtain ⟨q0, qP, qD, qK, qN⟩ := q
  exact ⟨q0, qP, qD, va_K.moved (u := U) (U := U.calling g mk a) (Vm.Alike.refl U.vm) qK, qN.same rfl⟩
theorem z_back {G : zG} {cc : ByteArray} {own : String} {ret : Option FieldType} {nL fr lc : Nat} (C : zC G cc own ret nL fr lc) {M : zM} {lo : List (Option Value)} {st : List Value} {pc : Nat} {st0 : List Value} {A0 : List Value} {P0 : Option Value → zM → Prop} (kk : ∀ (v : Option Value) (M' : zM), P0 v M' → VJ G M' (pc + 3) lo (v.toList ++ st)) :
    ∀ (H : Heap) (locs : List Loc) (ls : Array Slot), va_S (zA G.1 G.2.1) G.2.2.2.2.2.2.2.1.heap H locs → lh ls lo → va_Run G.2.2.2.2.1 G.2.2.2.1 G.2.2.2.2.2.1 G.2.2.2.2.2.2.1 G.2.2.2.2.2.2.2.1 G.2.2.2.2.2.2.2.2.1 G.2.2.2.2.2.2.2.2.2.1 G.2.2.2.2.2.2.2.2.2.2.1 G.2.2.2.2.2.2.2.2.2.2.2.1 G.2.2.2.2.2.2.2.2.2.2.2.2 H locs 0 0 0 0 (F0 G.2.2.2.2.2.2.2.2.1 pc ls st0) st (zQ G.1 G.2.1 P0 A0.toArray) (zA G.1 G.2.1) → W G.2.2.2.2.1 G.2.2.2.1 G.2.2.2.2.2.1 G.2.2.2.2.2.2.1 G.2.2.2.2.2.2.2.1 G.2.2.2.2.2.2.2.2.1 G.2.2.2.2.2.2.2.2.2.1 G.2.2.2.2.2.2.2.2.2.2.1 G.2.2.2.2.2.2.2.2.2.2.2.1 G.2.2.2.2.2.2.2.2.2.2.2.2 H locs 0 0 (MQ G.2.2.2.2.2.2.2.2.2.2.1 (zQ G.1 G.2.1 G.2.2.1) G.2.2.2.2.2.2.2.2.2.1 G.2.2.2.2.2.2.2.1 0 0 (zA G.1 G.2.1)) (F0 G.2.2.2.2.2.2.2.2.1 pc ls st0) := by
  obtain ⟨sd, E, P, l, p, e, R, s, m, args, below, meth, c⟩ := G
  intro H locs ls hS hl hr
  dsimp only at hS hr ⊢
  intro T hT X
  obtain ⟨v, st₀, t, T', L, h0, X', hL, e1, e2, ⟨⟨v2, M', hv, hp, hP1, hD1, hK1, hN1⟩, hz, hk⟩, stp⟩ := hr T hT X
  cases hv
  rw [h0] at hz hk
  have hS1 : va_S (zA sd E) s.heap T'.heap (locs ++ L) := ⟨Nat.le_trans hS.1 (by rw [e1]; exact hz), fun q h1 h2 => by rw [e1, hk q (Nat.lt_of_lt_of_le h1 hS.1) h2]; exact hS.2.1 q h1 h2, fun q hq => by
      rcases List.mem_append.mp hq with h | h
      · exact hS.2.2 q h
      · exact hL q h⟩
  obtain ⟨t2, a1, b1⟩ := kk v M' hp T'.heap (locs ++ L) ls (by rw [e1]; exact hP1) hD1 hS1 hl T' rfl X'
  exact ⟨t2, stp t2 a1, b1⟩
/-- invokevirtual -/
theorem z_callV {G : zG} {cc : ByteArray} {own : String} {ret : Option FieldType} {nL fr lc : Nat} (C : zC G cc own ret nL fr lc) {M : zM} {lo : List (Option Value)} {st : List Value} {pc : Nat} {idx : Nat} {y : MethodName} {bytes : ByteArray} {maxL fr2 lc2 n : Nat} {ret2 : Option FieldType} {P0 : Option Value → zM → Prop} {As : List Value} {k ci Nf : Nat} {Cn : String} {T : u_T} (hc : zK G.2.2.2.1 G.1 G.2.1 y bytes maxL ret2 fr2 lc2 (.ref (zad G k) :: As) M P0) (hk : k < G.1.1) (hs : G.1.2.1 k = (5 + ci, 0)) (hci : zcl[ci]? = some (Cn, T, Nf)) (hn : As.length = n)
    (hcode : Cond.code y bytes maxL ret2 ∈ tb) (hlink : Cond.methodLink own idx y ∈ tb) (hinst : Cond.instanceMethod y ∈ tb) (hsel : Cond.selects Cn y y ∈ tb) (hini : Cond.initialized Cn ∈ tb) (hd : y.cls = Cn ∧ y.cls ≠ "java/lang/invoke/MethodHandle" ∧ y.cls ≠ "java/lang/invoke/VarHandle" ∧ (parseMethodDescriptor y.desc).map (fun d => d.parameters.length) = some n) (hroom : fr2 + 1 ≤ fr ∧ 8 + (maxL + 11) + lc2 ≤ lc) (hcat : (st.map fun v => v.category).sum ≤ 8) (hlo : lo.length = nL)
    (d : decode cc pc = .ok (.invokevirtual idx, 3)) (kk : ∀ (v : Option Value) (M' : zM), P0 v M' → VJ G M' (pc + 3) lo (v.toList ++ st)) : VJ G M pc lo (As.reverse ++ .ref (zad G k) :: st) := by
  have hback := z_back (M := M) C (st0 := As.reverse ++ .ref (zad G k) :: st) (A0 := .ref (zad G k) :: As) kk
  obtain ⟨sd, E, P, l, p, e, R, s, m, args, below, meth, c⟩ := G
  obtain ⟨hx, hb, hr, hml, hown, hts, hK, hN, hlk, hR⟩ := C
  intro H locs ls hP hD hS hl
  dsimp only at hback hc hk hs
  have he : (zw sd E M)[k]? = some (E.2.2 k, .inr (ci, fsO E (M.1 k) (M.2 k) (sd.2.2.1 k))) := by rw [zw_at hk, zce_o hs]
  have hG : GoodIn tb (Cond.code y bytes maxL ret2 :: tb) := fun w hw => by
    rcases List.mem_cons.mp hw with rfl | hw
    · exact ⟨hcode, (tb_good _ hcode).2⟩
    · exact tb_good w hw
  have hG2 : GoodIn tb (wsV own idx Cn y (Cond.code y bytes maxL ret2 :: tb)) := fun w hw => by
    unfold wsV at hw
    rcases List.mem_append.mp hw with hw | hw
    · simp only [List.mem_cons, List.not_mem_nil, or_false] at hw
      rcases hw with rfl | rfl | rfl | rfl
      · exact tb_good _ hlink
      · exact tb_good _ hinst
      · exact tb_good _ hsel
      · exact tb_good _ hini
    · exact hG w hw
  subst hR
  exact hback H locs ls hS hl (va_runV (cc := cc) (nL := nL) (As := As) (rest := st) ⟨hx, hb, hml, hown, hts⟩ hc (cwV n hts hG2 rfl rfl rfl hd hroom) ⟨zK.blind, va_recv hK hP hci he, fun U hU hW => ⟨rfl, by rw [hU]; exact hP, hD, va_K.moved hW.alike hK, hN.warm hW⟩⟩ rfl hn (hl.1.trans hlo) rfl (lv_room hcat) d ⟨Nat.le_refl _, Nat.le_refl _⟩)
/-- invokestatic -/
theorem z_callS {G : zG} {cc : ByteArray} {own : String} {ret : Option FieldType} {nL fr lc : Nat} (C : zC G cc own ret nL fr lc) {M : zM} {lo : List (Option Value)} {st : List Value} {pc : Nat} {idx : Nat} {y : MethodName} {bytes : ByteArray} {maxL fr2 lc2 n : Nat} {ret2 : Option FieldType} {P0 : Option Value → zM → Prop} {As : List Value} (hc : zK G.2.2.2.1 G.1 G.2.1 y bytes maxL ret2 fr2 lc2 As M P0) (hn : As.length = n)
    (hcode : Cond.code y bytes maxL ret2 ∈ tb) (hlink : Cond.methodLink own idx y ∈ tb) (hstat : Cond.static y ∈ tb) (hini : Cond.initialized y.cls ∈ tb) (hd : y.cls ≠ "java/lang/invoke/MethodHandle" ∧ y.cls ≠ "java/lang/invoke/VarHandle" ∧ (parseMethodDescriptor y.desc).map (fun d => d.parameters.length) = some n) (hroom : fr2 + 1 ≤ fr ∧ 8 + (maxL + 11) + lc2 ≤ lc) (hcat : (st.map fun v => v.category).sum ≤ 8) (hlo : lo.length = nL)
    (d : decode cc pc = .ok (.invokestatic idx, 3)) (kk : ∀ (v : Option Value) (M' : zM), P0 v M' → VJ G M' (pc + 3) lo (v.toList ++ st)) : VJ G M pc lo (As.reverse ++ st) := by
  have hback := z_back (M := M) C (st0 := As.reverse ++ st) (A0 := As) kk
  obtain ⟨sd, E, P, l, p, e, R, s, m, args, below, meth, c⟩ := G
  obtain ⟨hx, hb, hr, hml, hown, hts, hK, hN, hlk, hR⟩ := C
  intro H locs ls hP hD hS hl
  dsimp only at hback hc
  have hG : GoodIn tb (Cond.code y bytes maxL ret2 :: tb) := fun w hw => by
    rcases List.mem_cons.mp hw with rfl | hw
    · exact ⟨hcode, (tb_good _ hcode).2⟩
    · exact tb_good w hw
  have hG2 : GoodIn tb (va_wsS own idx y (Cond.code y bytes maxL ret2 :: tb)) := fun w hw => by
    unfold va_wsS at hw
    rcases List.mem_append.mp hw with hw | hw
    · simp only [List.mem_cons, List.not_mem_nil, or_false] at hw
      rcases hw with rfl | rfl | rfl
      · exact tb_good _ hlink
      · exact tb_good _ hstat
      · exact tb_good _ hini
    · exact hG w hw
  subst hR
  exact hback H locs ls hS hl (va_runS (cc := cc) (nL := nL) (As := As) (rest := st) ⟨hx, hb, hml, hown, hts⟩ hc (va_cwS n hts hG2 rfl rfl rfl hd hroom) ⟨zK.blind, fun U hU hW => ⟨rfl, by rw [hU]; exact hP, hD, va_K.moved hW.alike hK, hN.warm hW⟩⟩ rfl hn (hl.1.trans hlo) rfl (lv_room hcat) d ⟨Nat.le_refl _, Nat.le_refl _⟩)
/-- invokestatic of a nest mate's private method -/
theorem z_callN {G : zG} {cc : ByteArray} {own : String} {ret : Option FieldType} {nL fr lc : Nat} (C : zC G cc own ret nL fr lc) {M : zM} {lo : List (Option Value)} {st : List Value} {pc : Nat} {idx : Nat} {y : MethodName} {bytes : ByteArray} {maxL fr2 lc2 n : Nat} {ret2 : Option FieldType} {P0 : Option Value → zM → Prop} {As : List Value} {host : String} (hc : zK G.2.2.2.1 G.1 G.2.1 y bytes maxL ret2 fr2 lc2 As M P0) (hn : As.length = n)
    (hcode : Cond.code y bytes maxL ret2 ∈ tb) (hlink : ∀ U, zN U → va_Nw (.methodLinkNest own idx y host) U) (hstat : Cond.static y ∈ tb) (hini : Cond.initialized y.cls ∈ tb) (hd : y.cls ≠ "java/lang/invoke/MethodHandle" ∧ y.cls ≠ "java/lang/invoke/VarHandle" ∧ (parseMethodDescriptor y.desc).map (fun d => d.parameters.length) = some n) (hroom : fr2 + 1 ≤ fr ∧ 8 + (maxL + 11) + lc2 ≤ lc) (hcat : (st.map fun v => v.category).sum ≤ 8) (hlo : lo.length = nL)
    (d : decode cc pc = .ok (.invokestatic idx, 3)) (kk : ∀ (v : Option Value) (M' : zM), P0 v M' → VJ G M' (pc + 3) lo (v.toList ++ st)) : VJ G M pc lo (As.reverse ++ st) := by
  have hback := z_back (M := M) C (st0 := As.reverse ++ st) (A0 := As) kk
  obtain ⟨sd, E, P, l, p, e, R, s, m, args, below, meth, c⟩ := G
  obtain ⟨hx, hb, hr, hml, hown, hts, hK, hN, hlk, hR⟩ := C
  intro H locs ls hP hD hS hl
  dsimp only at hback hc
  have hG : GoodIn tb (Cond.code y bytes maxL ret2 :: tb) := fun w hw => by
    rcases List.mem_cons.mp hw with rfl | hw
    · exact ⟨hcode, (tb_good _ hcode).2⟩
    · exact tb_good w hw
  subst hR
  exact hback H locs ls hS hl (va_runSN (cc := cc) (nL := nL) (As := As) (rest := st) ⟨hx, hb, hml, hown, hts⟩ hc ⟨va_cnB n hts hG rfl rfl rfl (hlink s hN) (hts _ hini) hd hroom, hts _ hstat, trivial⟩ ⟨zK.blind, fun U hU hW => ⟨rfl, by rw [hU]; exact hP, hD, va_K.moved hW.alike hK, hN.warm hW⟩⟩ rfl hn (hl.1.trans hlo) rfl (lv_room hcat) d ⟨Nat.le_refl _, Nat.le_refl _⟩)
theorem kkI {G : zG} {pc : Nat} {lo : List (Option Value)} {st : List Value} {p0 : Int → zM → Prop} (k : ∀ (z : Int) (M' : zM), p0 z M' → VJ G M' (pc + 3) lo (.int (iI z) :: st)) : ∀ (v : Option Value) (M' : zM), zPi p0 v M' → VJ G M' (pc + 3) lo (v.toList ++ st) := by
  rintro v M' ⟨z, rfl, h⟩
  exact k z M' h
theorem kkL {G : zG} {pc : Nat} {lo : List (Option Value)} {st : List Value} {p0 : Int64 → zM → Prop} (k : ∀ (x : Int64) (M' : zM), p0 x M' → VJ G M' (pc + 3) lo (.long x :: st)) : ∀ (v : Option Value) (M' : zM), zPl p0 v M' → VJ G M' (pc + 3) lo (v.toList ++ st) := by
  rintro v M' ⟨x, rfl, h⟩
  exact k x M' h
theorem kkV {G : zG} {pc : Nat} {lo : List (Option Value)} {st : List Value} {p0 : zM → Prop} (k : ∀ (M' : zM), p0 M' → VJ G M' (pc + 3) lo st) : ∀ (v : Option Value) (M' : zM), zPv p0 v M' → VJ G M' (pc + 3) lo (v.toList ++ st) := by
  rintro v M' ⟨rfl, h⟩
  exact k M' h
end
section
def shX (k : Nat) : Nat × Nat := if k < 45 then ([(5, 0), (6, 0), (7, 0), (8, 0), (8, 0), (0, 2), (0, 12), (0, 12), (4, 4), (0, 3), (0, 3), (0, 3), (0, 3), (3, 12), (0, 40), (0, 40), (0, 40), (1, 40), (0, 8), (0, 8), (0, 8), (4, 12), (0, 11), (0, 11), (0, 11), (0, 11), (0, 11), (0, 11), (0, 11), (0, 11), (0, 11), (0, 11), (0, 11), (0, 11), (4, 4), (0, 11), (0, 11), (0, 11), (0, 11), (0, 60), (0, 60), (0, 60), (0, 60), (2, 11), (2, 11)] : List (Nat × Nat)).getD k (0, 0) else ([(9, 0), (0, 2), (0, 2), (0, 2), (2, 61), (2, 61), (2, 2)] : List (Nat × Nat)).getD ((k - 45) % 7) (0, 0)
def dsX (k : Nat) : List (Nat × Nat) := if k < 45 then ([[(6, 1), (6, 2), (6, 3), (6, 4), (6, 5), (6, 6), (6, 7)], [(6, 8), (6, 13), (0, 0), (0, 0), (6, 14), (6, 15), (6, 16), (6, 17), (0, 0), (6, 18), (6, 19), (6, 20), (0, 0), (0, 0), (0, 0)], [(6, 21), (6, 34), (6, 39), (6, 40), (6, 41), (6, 42), (0, 0), (6, 43), (6, 44)], [(2, 0), (2, 0)], [(2, 0), (2, 0)]] : List (List (Nat × Nat))).getD k [] else [(0, 0), (0, 0), (0, 0), (0, 0), (0, 0), (6, k + 1), (6, k + 2), (6, k + 3), (6, k + 4), (6, k + 5), (6, k + 6), (2, 0), (0, 0)]
def rfX (k i : Nat) : Nat := if k = 8 then 9 + i else if k = 13 then 45 + 7 * i else if k = 21 then 22 + i else 35 + i
def sX : zSd := (129, shX, dsX, rfX)
def shM (k : Nat) : Nat × Nat := ([(10, 0), (0, 4), (0, 8), (0, 12), (0, 12), (0, 12), (0, 12), (1, 12), (1, 12), (0, 24), (0, 24), (0, 24), (0, 40), (0, 40), (0, 40), (1, 40), (0, 8), (0, 8), (0, 8), (1, 8), (1, 12), (1, 8), (1, 12), (2, 732), (2, 24), (2, 12), (0, 12), (0, 132), (0, 44), (0, 60), (0, 60), (0, 60), (0, 60), (2, 11), (2, 11), (0, 12)] : List (Nat × Nat)).getD k (0, 0)
def dsM (k : Nat) : List (Nat × Nat) := [(6, 1), (6, 2), (0, 0), (6, 3), (6, 4), (6, 5), (6, 6), (6, 7), (6, 8), (6, 9), (6, 10), (6, 11), (0, 0), (6, 12), (6, 13), (6, 14), (6, 15), (0, 0), (6, 16), (6, 17), (6, 18), (6, 19), (6, 20), (6, 21), (6, 22), (6, 23), (6, 24), (6, 25), (6, 26), (6, 27), (6, 28), (0, 0), (6, 29), (6, 30), (6, 31), (6, 32), (6, 33), (6, 34), (0, 0), (2, 0), (2, 0), (6, 35), (0, 0), (0, 0), (0, 0)]
def sM : zSd := (36, shM, dsM, fun _ i => i)
theorem shB0 (i : Nat) : shX (45 + 7 * i) = (9, 0) := by
  unfold shX
  rw [if_neg (by omega), show (45 + 7 * i - 45) % 7 = 0 by omega]
  rfl
theorem shB1 (i : Nat) : shX (45 + 7 * i + 1) = (0, 2) := by
  unfold shX
  rw [if_neg (by omega), show (45 + 7 * i + 1 - 45) % 7 = 1 by omega]
  rfl
theorem shB2 (i : Nat) : shX (45 + 7 * i + 2) = (0, 2) := by
  unfold shX
  rw [if_neg (by omega), show (45 + 7 * i + 2 - 45) % 7 = 2 by omega]
  rfl
theorem shB3 (i : Nat) : shX (45 + 7 * i + 3) = (0, 2) := by
  unfold shX
  rw [if_neg (by omega), show (45 + 7 * i + 3 - 45) % 7 = 3 by omega]
  rfl
theorem shB4 (i : Nat) : shX (45 + 7 * i + 4) = (2, 61) := by
  unfold shX
  rw [if_neg (by omega), show (45 + 7 * i + 4 - 45) % 7 = 4 by omega]
  rfl
theorem shB5 (i : Nat) : shX (45 + 7 * i + 5) = (2, 61) := by
  unfold shX
  rw [if_neg (by omega), show (45 + 7 * i + 5 - 45) % 7 = 5 by omega]
  rfl
theorem shB6 (i : Nat) : shX (45 + 7 * i + 6) = (2, 2) := by
  unfold shX
  rw [if_neg (by omega), show (45 + 7 * i + 6 - 45) % 7 = 6 by omega]
  rfl
theorem shKr {a : Nat} (h : a < 4) : shX (9 + a) = (0, 3) := by
  rcases (show a = 0 ∨ a = 1 ∨ a = 2 ∨ a = 3 by omega) with rfl | rfl | rfl | rfl <;> rfl
theorem shTr {a : Nat} (h : a < 4) : shX (35 + a) = (0, 11) := by
  rcases (show a = 0 ∨ a = 1 ∨ a = 2 ∨ a = 3 by omega) with rfl | rfl | rfl | rfl <;> rfl
theorem shWr {a : Nat} (h : a < 12) : shX (22 + a) = (0, 11) := by
  rcases (show a = 0 ∨ a = 1 ∨ a = 2 ∨ a = 3 ∨ a = 4 ∨ a = 5 ∨ a = 6 ∨ a = 7 ∨ a = 8 ∨ a = 9 ∨ a = 10 ∨ a = 11 by omega) with rfl | rfl | rfl | rfl | rfl | rfl | rfl | rfl | rfl | rfl | rfl | rfl <;> rfl
theorem dsB (i : Nat) : dsX (45 + 7 * i) = [(0, 0), (0, 0), (0, 0), (0, 0), (0, 0), (6, 45 + 7 * i + 1), (6, 45 + 7 * i + 2), (6, 45 + 7 * i + 3), (6, 45 + 7 * i + 4), (6, 45 + 7 * i + 5), (6, 45 + 7 * i + 6), (2, 0), (0, 0)] := by
  unfold dsX
  rw [if_neg (by omega)]
theorem tb_lay {C : String} {T : u_T} {n : Nat} (h : ∀ w ∈ u_ws C T n, w ∈ lw_tbl.filter goodWord) : ∀ w ∈ u_ws C T n, w ∈ tb := h
theorem X_iald {G : zG} {cc : ByteArray} {own : String} {ret : Option FieldType} {nL fr lc : Nat} (C : zC G cc own ret nL fr lc) {M : zM} {lo : List (Option Value)} {st : List Value} {pc : Nat} (hS : G.1 = sX) {k n : Nat} {a : Int} (hs : shX k = (0, n)) (hk : k < 129) (h0 : 0 ≤ a) (h1 : a < n) (hn : n < 2147483648) (d : decode cc pc = .ok (.iaload, 1)) (kk : VJ G M (pc + 1) lo (.int (iI (M.1 k a.toNat)) :: st)) : VJ G M pc lo (.int (iI a) :: .ref (zad G k) :: st) := r_iald C (by rw [hS]; exact hs) (by rw [hS]; exact hk) h0 h1 hn d kk
theorem X_bald {G : zG} {cc : ByteArray} {own : String} {ret : Option FieldType} {nL fr lc : Nat} (C : zC G cc own ret nL fr lc) {M : zM} {lo : List (Option Value)} {st : List Value} {pc : Nat} (hS : G.1 = sX) {k n : Nat} {a : Int} (hs : shX k = (1, n)) (hk : k < 129) (h0 : 0 ≤ a) (h1 : a < n) (hn : n < 2147483648) (d : decode cc pc = .ok (.baload, 1)) (kk : VJ G M (pc + 1) lo (.int (iI (M.1 k a.toNat)) :: st)) : VJ G M pc lo (.int (iI a) :: .ref (zad G k) :: st) := r_bald C (by rw [hS]; exact hs) (by rw [hS]; exact hk) h0 h1 hn d kk
theorem X_lald {G : zG} {cc : ByteArray} {own : String} {ret : Option FieldType} {nL fr lc : Nat} (C : zC G cc own ret nL fr lc) {M : zM} {lo : List (Option Value)} {st : List Value} {pc : Nat} (hS : G.1 = sX) {k n : Nat} {a : Int} (hs : shX k = (2, n)) (hk : k < 129) (h0 : 0 ≤ a) (h1 : a < n) (hn : n < 2147483648) (d : decode cc pc = .ok (.laload, 1)) (kk : VJ G M (pc + 1) lo (.long (M.2 k a.toNat) :: st)) : VJ G M pc lo (.int (iI a) :: .ref (zad G k) :: st) := r_lald C (by rw [hS]; exact hs) (by rw [hS]; exact hk) h0 h1 hn d kk
theorem X_iast {G : zG} {cc : ByteArray} {own : String} {ret : Option FieldType} {nL fr lc : Nat} (C : zC G cc own ret nL fr lc) {M : zM} {lo : List (Option Value)} {st : List Value} {pc : Nat} (hS : G.1 = sX) {k n : Nat} {a z : Int} (hs : shX k = (0, n)) (hk : k < 129) (h0 : 0 ≤ a) (h1 : a < n) (hn : n < 2147483648) (d : decode cc pc = .ok (.iastore, 1)) (kk : VJ G (zI M k a.toNat z) (pc + 1) lo st) : VJ G M pc lo (.int (iI z) :: .int (iI a) :: .ref (zad G k) :: st) := r_iast C (by rw [hS]; exact hs) (by rw [hS]; exact hk) h0 h1 hn d kk
theorem X_bast {G : zG} {cc : ByteArray} {own : String} {ret : Option FieldType} {nL fr lc : Nat} (C : zC G cc own ret nL fr lc) {M : zM} {lo : List (Option Value)} {st : List Value} {pc : Nat} (hS : G.1 = sX) {k n : Nat} {a z : Int} (hs : shX k = (1, n)) (hk : k < 129) (h0 : 0 ≤ a) (h1 : a < n) (hn : n < 2147483648) (h01 : z = 0 ∨ z = 1) (d : decode cc pc = .ok (.bastore, 1)) (kk : VJ G (zI M k a.toNat z) (pc + 1) lo st) : VJ G M pc lo (.int (iI z) :: .int (iI a) :: .ref (zad G k) :: st) := r_bast C (by rw [hS]; exact hs) (by rw [hS]; exact hk) h0 h1 hn h01 d kk
theorem X_last {G : zG} {cc : ByteArray} {own : String} {ret : Option FieldType} {nL fr lc : Nat} (C : zC G cc own ret nL fr lc) {M : zM} {lo : List (Option Value)} {st : List Value} {pc : Nat} (hS : G.1 = sX) {k n : Nat} {a : Int} {z : Int64} (hs : shX k = (2, n)) (hk : k < 129) (h0 : 0 ≤ a) (h1 : a < n) (hn : n < 2147483648) (d : decode cc pc = .ok (.lastore, 1)) (kk : VJ G (zJ M k a.toNat z) (pc + 1) lo st) : VJ G M pc lo (.long z :: .int (iI a) :: .ref (zad G k) :: st) := r_last C (by rw [hS]; exact hs) (by rw [hS]; exact hk) h0 h1 hn d kk
theorem M_iald {G : zG} {cc : ByteArray} {own : String} {ret : Option FieldType} {nL fr lc : Nat} (C : zC G cc own ret nL fr lc) {M : zM} {lo : List (Option Value)} {st : List Value} {pc : Nat} (hS : G.1 = sM) {k n : Nat} {a : Int} (hs : shM k = (0, n)) (hk : k < 36) (h0 : 0 ≤ a) (h1 : a < n) (hn : n < 2147483648) (d : decode cc pc = .ok (.iaload, 1)) (kk : VJ G M (pc + 1) lo (.int (iI (M.1 k a.toNat)) :: st)) : VJ G M pc lo (.int (iI a) :: .ref (zad G k) :: st) := r_iald C (by rw [hS]; exact hs) (by rw [hS]; exact hk) h0 h1 hn d kk
theorem M_bald {G : zG} {cc : ByteArray} {own : String} {ret : Option FieldType} {nL fr lc : Nat} (C : zC G cc own ret nL fr lc) {M : zM} {lo : List (Option Value)} {st : List Value} {pc : Nat} (hS : G.1 = sM) {k n : Nat} {a : Int} (hs : shM k = (1, n)) (hk : k < 36) (h0 : 0 ≤ a) (h1 : a < n) (hn : n < 2147483648) (d : decode cc pc = .ok (.baload, 1)) (kk : VJ G M (pc + 1) lo (.int (iI (M.1 k a.toNat)) :: st)) : VJ G M pc lo (.int (iI a) :: .ref (zad G k) :: st) := r_bald C (by rw [hS]; exact hs) (by rw [hS]; exact hk) h0 h1 hn d kk
theorem M_lald {G : zG} {cc : ByteArray} {own : String} {ret : Option FieldType} {nL fr lc : Nat} (C : zC G cc own ret nL fr lc) {M : zM} {lo : List (Option Value)} {st : List Value} {pc : Nat} (hS : G.1 = sM) {k n : Nat} {a : Int} (hs : shM k = (2, n)) (hk : k < 36) (h0 : 0 ≤ a) (h1 : a < n) (hn : n < 2147483648) (d : decode cc pc = .ok (.laload, 1)) (kk : VJ G M (pc + 1) lo (.long (M.2 k a.toNat) :: st)) : VJ G M pc lo (.int (iI a) :: .ref (zad G k) :: st) := r_lald C (by rw [hS]; exact hs) (by rw [hS]; exact hk) h0 h1 hn d kk
theorem M_iast {G : zG} {cc : ByteArray} {own : String} {ret : Option FieldType} {nL fr lc : Nat} (C : zC G cc own ret nL fr lc) {M : zM} {lo : List (Option Value)} {st : List Value} {pc : Nat} (hS : G.1 = sM) {k n : Nat} {a z : Int} (hs : shM k = (0, n)) (hk : k < 36) (h0 : 0 ≤ a) (h1 : a < n) (hn : n < 2147483648) (d : decode cc pc = .ok (.iastore, 1)) (kk : VJ G (zI M k a.toNat z) (pc + 1) lo st) : VJ G M pc lo (.int (iI z) :: .int (iI a) :: .ref (zad G k) :: st) := r_iast C (by rw [hS]; exact hs) (by rw [hS]; exact hk) h0 h1 hn d kk
theorem M_bast {G : zG} {cc : ByteArray} {own : String} {ret : Option FieldType} {nL fr lc : Nat} (C : zC G cc own ret nL fr lc) {M : zM} {lo : List (Option Value)} {st : List Value} {pc : Nat} (hS : G.1 = sM) {k n : Nat} {a z : Int} (hs : shM k = (1, n)) (hk : k < 36) (h0 : 0 ≤ a) (h1 : a < n) (hn : n < 2147483648) (h01 : z = 0 ∨ z = 1) (d : decode cc pc = .ok (.bastore, 1)) (kk : VJ G (zI M k a.toNat z) (pc + 1) lo st) : VJ G M pc lo (.int (iI z) :: .int (iI a) :: .ref (zad G k) :: st) := r_bast C (by rw [hS]; exact hs) (by rw [hS]; exact hk) h0 h1 hn h01 d kk
theorem M_last {G : zG} {cc : ByteArray} {own : String} {ret : Option FieldType} {nL fr lc : Nat} (C : zC G cc own ret nL fr lc) {M : zM} {lo : List (Option Value)} {st : List Value} {pc : Nat} (hS : G.1 = sM) {k n : Nat} {a : Int} {z : Int64} (hs : shM k = (2, n)) (hk : k < 36) (h0 : 0 ≤ a) (h1 : a < n) (hn : n < 2147483648) (d : decode cc pc = .ok (.lastore, 1)) (kk : VJ G (zJ M k a.toNat z) (pc + 1) lo st) : VJ G M pc lo (.long z :: .int (iI a) :: .ref (zad G k) :: st) := r_last C (by rw [hS]; exact hs) (by rw [hS]; exact hk) h0 h1 hn d kk
theorem X_kinds {G : zG} {cc : ByteArray} {own : String} {ret : Option FieldType} {nL fr lc : Nat} (C : zC G cc own ret nL fr lc) {M : zM} {lo : List (Option Value)} {st : List Value} {pc : Nat} (hS : G.1 = sX) {a : Int} (h0 : 0 ≤ a) (h1 : a < 4) (d : decode cc pc = .ok (.aaload, 1)) (kk : VJ G M (pc + 1) lo (.ref (zad G (9 + a.toNat)) :: st)) : VJ G M pc lo (.int (iI a) :: .ref (zad G 8) :: st) := r_rwld C (n := 4) (by rw [hS]; rfl) (by rw [hS]; decide) h0 h1 (by decide) d (by rw [hS]; exact kk)
theorem X_weights {G : zG} {cc : ByteArray} {own : String} {ret : Option FieldType} {nL fr lc : Nat} (C : zC G cc own ret nL fr lc) {M : zM} {lo : List (Option Value)} {st : List Value} {pc : Nat} (hS : G.1 = sX) {a : Int} (h0 : 0 ≤ a) (h1 : a < 12) (d : decode cc pc = .ok (.aaload, 1)) (kk : VJ G M (pc + 1) lo (.ref (zad G (22 + a.toNat)) :: st)) : VJ G M pc lo (.int (iI a) :: .ref (zad G 21) :: st) := r_rwld C (n := 12) (by rw [hS]; rfl) (by rw [hS]; decide) h0 h1 (by decide) d (by rw [hS]; exact kk)
theorem X_tools {G : zG} {cc : ByteArray} {own : String} {ret : Option FieldType} {nL fr lc : Nat} (C : zC G cc own ret nL fr lc) {M : zM} {lo : List (Option Value)} {st : List Value} {pc : Nat} (hS : G.1 = sX) {a : Int} (h0 : 0 ≤ a) (h1 : a < 4) (d : decode cc pc = .ok (.aaload, 1)) (kk : VJ G M (pc + 1) lo (.ref (zad G (35 + a.toNat)) :: st)) : VJ G M pc lo (.int (iI a) :: .ref (zad G 34) :: st) := r_rwld C (n := 4) (by rw [hS]; rfl) (by rw [hS]; decide) h0 h1 (by decide) d (by rw [hS]; exact kk)
theorem X_beams {G : zG} {cc : ByteArray} {own : String} {ret : Option FieldType} {nL fr lc : Nat} (C : zC G cc own ret nL fr lc) {M : zM} {lo : List (Option Value)} {st : List Value} {pc : Nat} (hS : G.1 = sX) {a : Int} (h0 : 0 ≤ a) (h1 : a < 12) (d : decode cc pc = .ok (.aaload, 1)) (kk : VJ G M (pc + 1) lo (.ref (zad G (45 + 7 * a.toNat)) :: st)) : VJ G M pc lo (.int (iI a) :: .ref (zad G 13) :: st) := r_bmld C (n := 12) (by rw [hS]; rfl) (by rw [hS]; decide) h0 h1 (by decide) d (by rw [hS]; exact kk)
theorem gX_O_frame {G : zG} {cc : ByteArray} {own : String} {ret : Option FieldType} {nL fr lc : Nat} (C : zC G cc own ret nL fr lc) {M : zM} {lo : List (Option Value)} {st : List Value} {pc : Nat} (hS : G.1 = sX) {idx : Nat} (hl : Cond.fieldLink own idx "OldBeams" "frame" "LOldBeams$Frame;" ∈ tb) (d : decode cc pc = .ok (.getfield idx, 3)) (kk : VJ G M (pc + 3) lo (.ref (zad G (1)) :: st)) : VJ G M pc lo (.ref (zad G 0) :: st) := z_get C (k := 0) (ci := 0) (slot := 0) (fd := (6, 1)) (T := TX_O) (by rw [hS]; decide) (by rw [hS]; exact rfl) (by rw [hS]; exact rfl) rfl lay_O (by decide) hl d kk
theorem gX_O_looks {G : zG} {cc : ByteArray} {own : String} {ret : Option FieldType} {nL fr lc : Nat} (C : zC G cc own ret nL fr lc) {M : zM} {lo : List (Option Value)} {st : List Value} {pc : Nat} (hS : G.1 = sX) {idx : Nat} (hl : Cond.fieldLink own idx "OldBeams" "looks" "LOldBeams$Looks;" ∈ tb) (d : decode cc pc = .ok (.getfield idx, 3)) (kk : VJ G M (pc + 3) lo (.ref (zad G (2)) :: st)) : VJ G M pc lo (.ref (zad G 0) :: st) := z_get C (k := 0) (ci := 0) (slot := 1) (fd := (6, 2)) (T := TX_O) (by rw [hS]; decide) (by rw [hS]; exact rfl) (by rw [hS]; exact rfl) rfl lay_O (by decide) hl d kk
theorem gX_O_fraction {G : zG} {cc : ByteArray} {own : String} {ret : Option FieldType} {nL fr lc : Nat} (C : zC G cc own ret nL fr lc) {M : zM} {lo : List (Option Value)} {st : List Value} {pc : Nat} (hS : G.1 = sX) {idx : Nat} (hl : Cond.fieldLink own idx "OldBeams" "fraction" "LOldBeams$Fraction;" ∈ tb) (d : decode cc pc = .ok (.getfield idx, 3)) (kk : VJ G M (pc + 3) lo (.ref (zad G (3)) :: st)) : VJ G M pc lo (.ref (zad G 0) :: st) := z_get C (k := 0) (ci := 0) (slot := 2) (fd := (6, 3)) (T := TX_O) (by rw [hS]; decide) (by rw [hS]; exact rfl) (by rw [hS]; exact rfl) rfl lay_O (by decide) hl d kk
theorem gX_O_best {G : zG} {cc : ByteArray} {own : String} {ret : Option FieldType} {nL fr lc : Nat} (C : zC G cc own ret nL fr lc) {M : zM} {lo : List (Option Value)} {st : List Value} {pc : Nat} (hS : G.1 = sX) {idx : Nat} (hl : Cond.fieldLink own idx "OldBeams" "best" "LOldBeams$Fraction;" ∈ tb) (d : decode cc pc = .ok (.getfield idx, 3)) (kk : VJ G M (pc + 3) lo (.ref (zad G (4)) :: st)) : VJ G M pc lo (.ref (zad G 0) :: st) := z_get C (k := 0) (ci := 0) (slot := 3) (fd := (6, 4)) (T := TX_O) (by rw [hS]; decide) (by rw [hS]; exact rfl) (by rw [hS]; exact rfl) rfl lay_O (by decide) hl d kk
theorem gX_O_prices {G : zG} {cc : ByteArray} {own : String} {ret : Option FieldType} {nL fr lc : Nat} (C : zC G cc own ret nL fr lc) {M : zM} {lo : List (Option Value)} {st : List Value} {pc : Nat} (hS : G.1 = sX) {idx : Nat} (hl : Cond.fieldLink own idx "OldBeams" "prices" "[I" ∈ tb) (d : decode cc pc = .ok (.getfield idx, 3)) (kk : VJ G M (pc + 3) lo (.ref (zad G (5)) :: st)) : VJ G M pc lo (.ref (zad G 0) :: st) := z_get C (k := 0) (ci := 0) (slot := 4) (fd := (6, 5)) (T := TX_O) (by rw [hS]; decide) (by rw [hS]; exact rfl) (by rw [hS]; exact rfl) rfl lay_O (by decide) hl d kk
theorem gX_O_shares {G : zG} {cc : ByteArray} {own : String} {ret : Option FieldType} {nL fr lc : Nat} (C : zC G cc own ret nL fr lc) {M : zM} {lo : List (Option Value)} {st : List Value} {pc : Nat} (hS : G.1 = sX) {idx : Nat} (hl : Cond.fieldLink own idx "OldBeams" "shares" "[I" ∈ tb) (d : decode cc pc = .ok (.getfield idx, 3)) (kk : VJ G M (pc + 3) lo (.ref (zad G (6)) :: st)) : VJ G M pc lo (.ref (zad G 0) :: st) := z_get C (k := 0) (ci := 0) (slot := 5) (fd := (6, 6)) (T := TX_O) (by rw [hS]; decide) (by rw [hS]; exact rfl) (by rw [hS]; exact rfl) rfl lay_O (by decide) hl d kk
theorem gX_O_fallOrder {G : zG} {cc : ByteArray} {own : String} {ret : Option FieldType} {nL fr lc : Nat} (C : zC G cc own ret nL fr lc) {M : zM} {lo : List (Option Value)} {st : List Value} {pc : Nat} (hS : G.1 = sX) {idx : Nat} (hl : Cond.fieldLink own idx "OldBeams" "fallOrder" "[I" ∈ tb) (d : decode cc pc = .ok (.getfield idx, 3)) (kk : VJ G M (pc + 3) lo (.ref (zad G (7)) :: st)) : VJ G M pc lo (.ref (zad G 0) :: st) := z_get C (k := 0) (ci := 0) (slot := 6) (fd := (6, 7)) (T := TX_O) (by rw [hS]; decide) (by rw [hS]; exact rfl) (by rw [hS]; exact rfl) rfl lay_O (by decide) hl d kk
theorem gX_F_kinds {G : zG} {cc : ByteArray} {own : String} {ret : Option FieldType} {nL fr lc : Nat} (C : zC G cc own ret nL fr lc) {M : zM} {lo : List (Option Value)} {st : List Value} {pc : Nat} (hS : G.1 = sX) {idx : Nat} (hl : Cond.fieldLink own idx "OldBeams$Frame" "kinds" "[[I" ∈ tb) (d : decode cc pc = .ok (.getfield idx, 3)) (kk : VJ G M (pc + 3) lo (.ref (zad G (8)) :: st)) : VJ G M pc lo (.ref (zad G 1) :: st) := z_get C (k := 1) (ci := 1) (slot := 0) (fd := (6, 8)) (T := TX_F) (by rw [hS]; decide) (by rw [hS]; exact rfl) (by rw [hS]; exact rfl) rfl lay_F (by decide) hl d kk
theorem gX_F_beams {G : zG} {cc : ByteArray} {own : String} {ret : Option FieldType} {nL fr lc : Nat} (C : zC G cc own ret nL fr lc) {M : zM} {lo : List (Option Value)} {st : List Value} {pc : Nat} (hS : G.1 = sX) {idx : Nat} (hl : Cond.fieldLink own idx "OldBeams$Frame" "beams" "[LOldBeams$Beam;" ∈ tb) (d : decode cc pc = .ok (.getfield idx, 3)) (kk : VJ G M (pc + 3) lo (.ref (zad G (13)) :: st)) : VJ G M pc lo (.ref (zad G 1) :: st) := z_get C (k := 1) (ci := 1) (slot := 1) (fd := (6, 13)) (T := TX_F) (by rw [hS]; decide) (by rw [hS]; exact rfl) (by rw [hS]; exact rfl) rfl lay_F (by decide) hl d kk
theorem gX_F_beamCount {G : zG} {cc : ByteArray} {own : String} {ret : Option FieldType} {nL fr lc : Nat} (C : zC G cc own ret nL fr lc) {M : zM} {lo : List (Option Value)} {st : List Value} {pc : Nat} (hS : G.1 = sX) {idx : Nat} (hl : Cond.fieldLink own idx "OldBeams$Frame" "beamCount" "I" ∈ tb) (d : decode cc pc = .ok (.getfield idx, 3)) (kk : VJ G M (pc + 3) lo (.int (iI (M.1 1 2)) :: st)) : VJ G M pc lo (.ref (zad G 1) :: st) := z_get C (k := 1) (ci := 1) (slot := 2) (fd := (0, 0)) (T := TX_F) (by rw [hS]; decide) (by rw [hS]; exact rfl) (by rw [hS]; exact rfl) rfl lay_F (by decide) hl d kk
theorem pX_F_beamCount {G : zG} {cc : ByteArray} {own : String} {ret : Option FieldType} {nL fr lc : Nat} (C : zC G cc own ret nL fr lc) {M : zM} {lo : List (Option Value)} {st : List Value} {pc : Nat} (hS : G.1 = sX) {idx : Nat} {z : Int} (hl : Cond.fieldLink own idx "OldBeams$Frame" "beamCount" "I" ∈ tb) (d : decode cc pc = .ok (.putfield idx, 3)) (kk : VJ G (zI M 1 2 z) (pc + 3) lo st) : VJ G M pc lo (.int (iI z) :: .ref (zad G 1) :: st) := z_putI C (k := 1) (ci := 1) (slot := 2) (x := 0) (T := TX_F) (ty0 := ty_F) (ty := .int) (by rw [hS]; decide) (by rw [hS]; exact rfl) (by rw [hS]; exact rfl) rfl lay_F tyok_F nm_F (by decide) rfl (by decide +kernel) rfl rfl hl d kk
theorem gX_F_fallen {G : zG} {cc : ByteArray} {own : String} {ret : Option FieldType} {nL fr lc : Nat} (C : zC G cc own ret nL fr lc) {M : zM} {lo : List (Option Value)} {st : List Value} {pc : Nat} (hS : G.1 = sX) {idx : Nat} (hl : Cond.fieldLink own idx "OldBeams$Frame" "fallen" "I" ∈ tb) (d : decode cc pc = .ok (.getfield idx, 3)) (kk : VJ G M (pc + 3) lo (.int (iI (M.1 1 3)) :: st)) : VJ G M pc lo (.ref (zad G 1) :: st) := z_get C (k := 1) (ci := 1) (slot := 3) (fd := (0, 0)) (T := TX_F) (by rw [hS]; decide) (by rw [hS]; exact rfl) (by rw [hS]; exact rfl) rfl lay_F (by decide) hl d kk
theorem pX_F_fallen {G : zG} {cc : ByteArray} {own : String} {ret : Option FieldType} {nL fr lc : Nat} (C : zC G cc own ret nL fr lc) {M : zM} {lo : List (Option Value)} {st : List Value} {pc : Nat} (hS : G.1 = sX) {idx : Nat} {z : Int} (hl : Cond.fieldLink own idx "OldBeams$Frame" "fallen" "I" ∈ tb) (d : decode cc pc = .ok (.putfield idx, 3)) (kk : VJ G (zI M 1 3 z) (pc + 3) lo st) : VJ G M pc lo (.int (iI z) :: .ref (zad G 1) :: st) := z_putI C (k := 1) (ci := 1) (slot := 3) (x := 0) (T := TX_F) (ty0 := ty_F) (ty := .int) (by rw [hS]; decide) (by rw [hS]; exact rfl) (by rw [hS]; exact rfl) rfl lay_F tyok_F nm_F (by decide) rfl (by decide +kernel) rfl rfl hl d kk
theorem gX_F_loadBeam {G : zG} {cc : ByteArray} {own : String} {ret : Option FieldType} {nL fr lc : Nat} (C : zC G cc own ret nL fr lc) {M : zM} {lo : List (Option Value)} {st : List Value} {pc : Nat} (hS : G.1 = sX) {idx : Nat} (hl : Cond.fieldLink own idx "OldBeams$Frame" "loadBeam" "[I" ∈ tb) (d : decode cc pc = .ok (.getfield idx, 3)) (kk : VJ G M (pc + 3) lo (.ref (zad G (14)) :: st)) : VJ G M pc lo (.ref (zad G 1) :: st) := z_get C (k := 1) (ci := 1) (slot := 4) (fd := (6, 14)) (T := TX_F) (by rw [hS]; decide) (by rw [hS]; exact rfl) (by rw [hS]; exact rfl) rfl lay_F (by decide) hl d kk
theorem gX_F_loadPlace {G : zG} {cc : ByteArray} {own : String} {ret : Option FieldType} {nL fr lc : Nat} (C : zC G cc own ret nL fr lc) {M : zM} {lo : List (Option Value)} {st : List Value} {pc : Nat} (hS : G.1 = sX) {idx : Nat} (hl : Cond.fieldLink own idx "OldBeams$Frame" "loadPlace" "[I" ∈ tb) (d : decode cc pc = .ok (.getfield idx, 3)) (kk : VJ G M (pc + 3) lo (.ref (zad G (15)) :: st)) : VJ G M pc lo (.ref (zad G 1) :: st) := z_get C (k := 1) (ci := 1) (slot := 5) (fd := (6, 15)) (T := TX_F) (by rw [hS]; decide) (by rw [hS]; exact rfl) (by rw [hS]; exact rfl) rfl lay_F (by decide) hl d kk
theorem gX_F_loadWeight {G : zG} {cc : ByteArray} {own : String} {ret : Option FieldType} {nL fr lc : Nat} (C : zC G cc own ret nL fr lc) {M : zM} {lo : List (Option Value)} {st : List Value} {pc : Nat} (hS : G.1 = sX) {idx : Nat} (hl : Cond.fieldLink own idx "OldBeams$Frame" "loadWeight" "[I" ∈ tb) (d : decode cc pc = .ok (.getfield idx, 3)) (kk : VJ G M (pc + 3) lo (.ref (zad G (16)) :: st)) : VJ G M pc lo (.ref (zad G 1) :: st) := z_get C (k := 1) (ci := 1) (slot := 6) (fd := (6, 16)) (T := TX_F) (by rw [hS]; decide) (by rw [hS]; exact rfl) (by rw [hS]; exact rfl) rfl lay_F (by decide) hl d kk
theorem gX_F_loadIsOn {G : zG} {cc : ByteArray} {own : String} {ret : Option FieldType} {nL fr lc : Nat} (C : zC G cc own ret nL fr lc) {M : zM} {lo : List (Option Value)} {st : List Value} {pc : Nat} (hS : G.1 = sX) {idx : Nat} (hl : Cond.fieldLink own idx "OldBeams$Frame" "loadIsOn" "[Z" ∈ tb) (d : decode cc pc = .ok (.getfield idx, 3)) (kk : VJ G M (pc + 3) lo (.ref (zad G (17)) :: st)) : VJ G M pc lo (.ref (zad G 1) :: st) := z_get C (k := 1) (ci := 1) (slot := 7) (fd := (6, 17)) (T := TX_F) (by rw [hS]; decide) (by rw [hS]; exact rfl) (by rw [hS]; exact rfl) rfl lay_F (by decide) hl d kk
theorem gX_F_loadCount {G : zG} {cc : ByteArray} {own : String} {ret : Option FieldType} {nL fr lc : Nat} (C : zC G cc own ret nL fr lc) {M : zM} {lo : List (Option Value)} {st : List Value} {pc : Nat} (hS : G.1 = sX) {idx : Nat} (hl : Cond.fieldLink own idx "OldBeams$Frame" "loadCount" "I" ∈ tb) (d : decode cc pc = .ok (.getfield idx, 3)) (kk : VJ G M (pc + 3) lo (.int (iI (M.1 1 8)) :: st)) : VJ G M pc lo (.ref (zad G 1) :: st) := z_get C (k := 1) (ci := 1) (slot := 8) (fd := (0, 0)) (T := TX_F) (by rw [hS]; decide) (by rw [hS]; exact rfl) (by rw [hS]; exact rfl) rfl lay_F (by decide) hl d kk
theorem pX_F_loadCount {G : zG} {cc : ByteArray} {own : String} {ret : Option FieldType} {nL fr lc : Nat} (C : zC G cc own ret nL fr lc) {M : zM} {lo : List (Option Value)} {st : List Value} {pc : Nat} (hS : G.1 = sX) {idx : Nat} {z : Int} (hl : Cond.fieldLink own idx "OldBeams$Frame" "loadCount" "I" ∈ tb) (d : decode cc pc = .ok (.putfield idx, 3)) (kk : VJ G (zI M 1 8 z) (pc + 3) lo st) : VJ G M pc lo (.int (iI z) :: .ref (zad G 1) :: st) := z_putI C (k := 1) (ci := 1) (slot := 8) (x := 0) (T := TX_F) (ty0 := ty_F) (ty := .int) (by rw [hS]; decide) (by rw [hS]; exact rfl) (by rw [hS]; exact rfl) rfl lay_F tyok_F nm_F (by decide) rfl (by decide +kernel) rfl rfl hl d kk
theorem gX_F_propBeam {G : zG} {cc : ByteArray} {own : String} {ret : Option FieldType} {nL fr lc : Nat} (C : zC G cc own ret nL fr lc) {M : zM} {lo : List (Option Value)} {st : List Value} {pc : Nat} (hS : G.1 = sX) {idx : Nat} (hl : Cond.fieldLink own idx "OldBeams$Frame" "propBeam" "[I" ∈ tb) (d : decode cc pc = .ok (.getfield idx, 3)) (kk : VJ G M (pc + 3) lo (.ref (zad G (18)) :: st)) : VJ G M pc lo (.ref (zad G 1) :: st) := z_get C (k := 1) (ci := 1) (slot := 9) (fd := (6, 18)) (T := TX_F) (by rw [hS]; decide) (by rw [hS]; exact rfl) (by rw [hS]; exact rfl) rfl lay_F (by decide) hl d kk
theorem gX_F_propPlace {G : zG} {cc : ByteArray} {own : String} {ret : Option FieldType} {nL fr lc : Nat} (C : zC G cc own ret nL fr lc) {M : zM} {lo : List (Option Value)} {st : List Value} {pc : Nat} (hS : G.1 = sX) {idx : Nat} (hl : Cond.fieldLink own idx "OldBeams$Frame" "propPlace" "[I" ∈ tb) (d : decode cc pc = .ok (.getfield idx, 3)) (kk : VJ G M (pc + 3) lo (.ref (zad G (19)) :: st)) : VJ G M pc lo (.ref (zad G 1) :: st) := z_get C (k := 1) (ci := 1) (slot := 10) (fd := (6, 19)) (T := TX_F) (by rw [hS]; decide) (by rw [hS]; exact rfl) (by rw [hS]; exact rfl) rfl lay_F (by decide) hl d kk
theorem gX_F_propPush {G : zG} {cc : ByteArray} {own : String} {ret : Option FieldType} {nL fr lc : Nat} (C : zC G cc own ret nL fr lc) {M : zM} {lo : List (Option Value)} {st : List Value} {pc : Nat} (hS : G.1 = sX) {idx : Nat} (hl : Cond.fieldLink own idx "OldBeams$Frame" "propPush" "[I" ∈ tb) (d : decode cc pc = .ok (.getfield idx, 3)) (kk : VJ G M (pc + 3) lo (.ref (zad G (20)) :: st)) : VJ G M pc lo (.ref (zad G 1) :: st) := z_get C (k := 1) (ci := 1) (slot := 11) (fd := (6, 20)) (T := TX_F) (by rw [hS]; decide) (by rw [hS]; exact rfl) (by rw [hS]; exact rfl) rfl lay_F (by decide) hl d kk
theorem gX_F_propCount {G : zG} {cc : ByteArray} {own : String} {ret : Option FieldType} {nL fr lc : Nat} (C : zC G cc own ret nL fr lc) {M : zM} {lo : List (Option Value)} {st : List Value} {pc : Nat} (hS : G.1 = sX) {idx : Nat} (hl : Cond.fieldLink own idx "OldBeams$Frame" "propCount" "I" ∈ tb) (d : decode cc pc = .ok (.getfield idx, 3)) (kk : VJ G M (pc + 3) lo (.int (iI (M.1 1 12)) :: st)) : VJ G M pc lo (.ref (zad G 1) :: st) := z_get C (k := 1) (ci := 1) (slot := 12) (fd := (0, 0)) (T := TX_F) (by rw [hS]; decide) (by rw [hS]; exact rfl) (by rw [hS]; exact rfl) rfl lay_F (by decide) hl d kk
theorem pX_F_propCount {G : zG} {cc : ByteArray} {own : String} {ret : Option FieldType} {nL fr lc : Nat} (C : zC G cc own ret nL fr lc) {M : zM} {lo : List (Option Value)} {st : List Value} {pc : Nat} (hS : G.1 = sX) {idx : Nat} {z : Int} (hl : Cond.fieldLink own idx "OldBeams$Frame" "propCount" "I" ∈ tb) (d : decode cc pc = .ok (.putfield idx, 3)) (kk : VJ G (zI M 1 12 z) (pc + 3) lo st) : VJ G M pc lo (.int (iI z) :: .ref (zad G 1) :: st) := z_putI C (k := 1) (ci := 1) (slot := 12) (x := 0) (T := TX_F) (ty0 := ty_F) (ty := .int) (by rw [hS]; decide) (by rw [hS]; exact rfl) (by rw [hS]; exact rfl) rfl lay_F tyok_F nm_F (by decide) rfl (by decide +kernel) rfl rfl hl d kk
theorem gX_F_setProps {G : zG} {cc : ByteArray} {own : String} {ret : Option FieldType} {nL fr lc : Nat} (C : zC G cc own ret nL fr lc) {M : zM} {lo : List (Option Value)} {st : List Value} {pc : Nat} (hS : G.1 = sX) {idx : Nat} (hl : Cond.fieldLink own idx "OldBeams$Frame" "setProps" "I" ∈ tb) (d : decode cc pc = .ok (.getfield idx, 3)) (kk : VJ G M (pc + 3) lo (.int (iI (M.1 1 13)) :: st)) : VJ G M pc lo (.ref (zad G 1) :: st) := z_get C (k := 1) (ci := 1) (slot := 13) (fd := (0, 0)) (T := TX_F) (by rw [hS]; decide) (by rw [hS]; exact rfl) (by rw [hS]; exact rfl) rfl lay_F (by decide) hl d kk
theorem pX_F_setProps {G : zG} {cc : ByteArray} {own : String} {ret : Option FieldType} {nL fr lc : Nat} (C : zC G cc own ret nL fr lc) {M : zM} {lo : List (Option Value)} {st : List Value} {pc : Nat} (hS : G.1 = sX) {idx : Nat} {z : Int} (hl : Cond.fieldLink own idx "OldBeams$Frame" "setProps" "I" ∈ tb) (d : decode cc pc = .ok (.putfield idx, 3)) (kk : VJ G (zI M 1 13 z) (pc + 3) lo st) : VJ G M pc lo (.int (iI z) :: .ref (zad G 1) :: st) := z_putI C (k := 1) (ci := 1) (slot := 13) (x := 0) (T := TX_F) (ty0 := ty_F) (ty := .int) (by rw [hS]; decide) (by rw [hS]; exact rfl) (by rw [hS]; exact rfl) rfl lay_F tyok_F nm_F (by decide) rfl (by decide +kernel) rfl rfl hl d kk
theorem gX_F_triedDown {G : zG} {cc : ByteArray} {own : String} {ret : Option FieldType} {nL fr lc : Nat} (C : zC G cc own ret nL fr lc) {M : zM} {lo : List (Option Value)} {st : List Value} {pc : Nat} (hS : G.1 = sX) {idx : Nat} (hl : Cond.fieldLink own idx "OldBeams$Frame" "triedDown" "I" ∈ tb) (d : decode cc pc = .ok (.getfield idx, 3)) (kk : VJ G M (pc + 3) lo (.int (iI (M.1 1 14)) :: st)) : VJ G M pc lo (.ref (zad G 1) :: st) := z_get C (k := 1) (ci := 1) (slot := 14) (fd := (0, 0)) (T := TX_F) (by rw [hS]; decide) (by rw [hS]; exact rfl) (by rw [hS]; exact rfl) rfl lay_F (by decide) hl d kk
theorem pX_F_triedDown {G : zG} {cc : ByteArray} {own : String} {ret : Option FieldType} {nL fr lc : Nat} (C : zC G cc own ret nL fr lc) {M : zM} {lo : List (Option Value)} {st : List Value} {pc : Nat} (hS : G.1 = sX) {idx : Nat} {z : Int} (hl : Cond.fieldLink own idx "OldBeams$Frame" "triedDown" "I" ∈ tb) (d : decode cc pc = .ok (.putfield idx, 3)) (kk : VJ G (zI M 1 14 z) (pc + 3) lo st) : VJ G M pc lo (.int (iI z) :: .ref (zad G 1) :: st) := z_putI C (k := 1) (ci := 1) (slot := 14) (x := 0) (T := TX_F) (ty0 := ty_F) (ty := .int) (by rw [hS]; decide) (by rw [hS]; exact rfl) (by rw [hS]; exact rfl) rfl lay_F tyok_F nm_F (by decide) rfl (by decide +kernel) rfl rfl hl d kk
theorem gX_K_weights {G : zG} {cc : ByteArray} {own : String} {ret : Option FieldType} {nL fr lc : Nat} (C : zC G cc own ret nL fr lc) {M : zM} {lo : List (Option Value)} {st : List Value} {pc : Nat} (hS : G.1 = sX) {idx : Nat} (hl : Cond.fieldLink own idx "OldBeams$Looks" "weights" "[[I" ∈ tb) (d : decode cc pc = .ok (.getfield idx, 3)) (kk : VJ G M (pc + 3) lo (.ref (zad G (21)) :: st)) : VJ G M pc lo (.ref (zad G 2) :: st) := z_get C (k := 2) (ci := 2) (slot := 0) (fd := (6, 21)) (T := TX_K) (by rw [hS]; decide) (by rw [hS]; exact rfl) (by rw [hS]; exact rfl) rfl lay_K (by decide) hl d kk
theorem gX_K_tools {G : zG} {cc : ByteArray} {own : String} {ret : Option FieldType} {nL fr lc : Nat} (C : zC G cc own ret nL fr lc) {M : zM} {lo : List (Option Value)} {st : List Value} {pc : Nat} (hS : G.1 = sX) {idx : Nat} (hl : Cond.fieldLink own idx "OldBeams$Looks" "tools" "[[I" ∈ tb) (d : decode cc pc = .ok (.getfield idx, 3)) (kk : VJ G M (pc + 3) lo (.ref (zad G (34)) :: st)) : VJ G M pc lo (.ref (zad G 2) :: st) := z_get C (k := 2) (ci := 2) (slot := 1) (fd := (6, 34)) (T := TX_K) (by rw [hS]; decide) (by rw [hS]; exact rfl) (by rw [hS]; exact rfl) rfl lay_K (by decide) hl d kk
theorem gX_K_lookBeam {G : zG} {cc : ByteArray} {own : String} {ret : Option FieldType} {nL fr lc : Nat} (C : zC G cc own ret nL fr lc) {M : zM} {lo : List (Option Value)} {st : List Value} {pc : Nat} (hS : G.1 = sX) {idx : Nat} (hl : Cond.fieldLink own idx "OldBeams$Looks" "lookBeam" "[I" ∈ tb) (d : decode cc pc = .ok (.getfield idx, 3)) (kk : VJ G M (pc + 3) lo (.ref (zad G (39)) :: st)) : VJ G M pc lo (.ref (zad G 2) :: st) := z_get C (k := 2) (ci := 2) (slot := 2) (fd := (6, 39)) (T := TX_K) (by rw [hS]; decide) (by rw [hS]; exact rfl) (by rw [hS]; exact rfl) rfl lay_K (by decide) hl d kk
theorem gX_K_lookTool {G : zG} {cc : ByteArray} {own : String} {ret : Option FieldType} {nL fr lc : Nat} (C : zC G cc own ret nL fr lc) {M : zM} {lo : List (Option Value)} {st : List Value} {pc : Nat} (hS : G.1 = sX) {idx : Nat} (hl : Cond.fieldLink own idx "OldBeams$Looks" "lookTool" "[I" ∈ tb) (d : decode cc pc = .ok (.getfield idx, 3)) (kk : VJ G M (pc + 3) lo (.ref (zad G (40)) :: st)) : VJ G M pc lo (.ref (zad G 2) :: st) := z_get C (k := 2) (ci := 2) (slot := 3) (fd := (6, 40)) (T := TX_K) (by rw [hS]; decide) (by rw [hS]; exact rfl) (by rw [hS]; exact rfl) rfl lay_K (by decide) hl d kk
theorem gX_K_lookOutcome {G : zG} {cc : ByteArray} {own : String} {ret : Option FieldType} {nL fr lc : Nat} (C : zC G cc own ret nL fr lc) {M : zM} {lo : List (Option Value)} {st : List Value} {pc : Nat} (hS : G.1 = sX) {idx : Nat} (hl : Cond.fieldLink own idx "OldBeams$Looks" "lookOutcome" "[I" ∈ tb) (d : decode cc pc = .ok (.getfield idx, 3)) (kk : VJ G M (pc + 3) lo (.ref (zad G (41)) :: st)) : VJ G M pc lo (.ref (zad G 2) :: st) := z_get C (k := 2) (ci := 2) (slot := 4) (fd := (6, 41)) (T := TX_K) (by rw [hS]; decide) (by rw [hS]; exact rfl) (by rw [hS]; exact rfl) rfl lay_K (by decide) hl d kk
theorem gX_K_lookYear {G : zG} {cc : ByteArray} {own : String} {ret : Option FieldType} {nL fr lc : Nat} (C : zC G cc own ret nL fr lc) {M : zM} {lo : List (Option Value)} {st : List Value} {pc : Nat} (hS : G.1 = sX) {idx : Nat} (hl : Cond.fieldLink own idx "OldBeams$Looks" "lookYear" "[I" ∈ tb) (d : decode cc pc = .ok (.getfield idx, 3)) (kk : VJ G M (pc + 3) lo (.ref (zad G (42)) :: st)) : VJ G M pc lo (.ref (zad G 2) :: st) := z_get C (k := 2) (ci := 2) (slot := 5) (fd := (6, 42)) (T := TX_K) (by rw [hS]; decide) (by rw [hS]; exact rfl) (by rw [hS]; exact rfl) rfl lay_K (by decide) hl d kk
theorem gX_K_lookCount {G : zG} {cc : ByteArray} {own : String} {ret : Option FieldType} {nL fr lc : Nat} (C : zC G cc own ret nL fr lc) {M : zM} {lo : List (Option Value)} {st : List Value} {pc : Nat} (hS : G.1 = sX) {idx : Nat} (hl : Cond.fieldLink own idx "OldBeams$Looks" "lookCount" "I" ∈ tb) (d : decode cc pc = .ok (.getfield idx, 3)) (kk : VJ G M (pc + 3) lo (.int (iI (M.1 2 6)) :: st)) : VJ G M pc lo (.ref (zad G 2) :: st) := z_get C (k := 2) (ci := 2) (slot := 6) (fd := (0, 0)) (T := TX_K) (by rw [hS]; decide) (by rw [hS]; exact rfl) (by rw [hS]; exact rfl) rfl lay_K (by decide) hl d kk
theorem pX_K_lookCount {G : zG} {cc : ByteArray} {own : String} {ret : Option FieldType} {nL fr lc : Nat} (C : zC G cc own ret nL fr lc) {M : zM} {lo : List (Option Value)} {st : List Value} {pc : Nat} (hS : G.1 = sX) {idx : Nat} {z : Int} (hl : Cond.fieldLink own idx "OldBeams$Looks" "lookCount" "I" ∈ tb) (d : decode cc pc = .ok (.putfield idx, 3)) (kk : VJ G (zI M 2 6 z) (pc + 3) lo st) : VJ G M pc lo (.int (iI z) :: .ref (zad G 2) :: st) := z_putI C (k := 2) (ci := 2) (slot := 6) (x := 0) (T := TX_K) (ty0 := ty_K) (ty := .int) (by rw [hS]; decide) (by rw [hS]; exact rfl) (by rw [hS]; exact rfl) rfl lay_K tyok_K nm_K (by decide) rfl (by decide +kernel) rfl rfl hl d kk
theorem gX_K_known {G : zG} {cc : ByteArray} {own : String} {ret : Option FieldType} {nL fr lc : Nat} (C : zC G cc own ret nL fr lc) {M : zM} {lo : List (Option Value)} {st : List Value} {pc : Nat} (hS : G.1 = sX) {idx : Nat} (hl : Cond.fieldLink own idx "OldBeams$Looks" "known" "[J" ∈ tb) (d : decode cc pc = .ok (.getfield idx, 3)) (kk : VJ G M (pc + 3) lo (.ref (zad G (43)) :: st)) : VJ G M pc lo (.ref (zad G 2) :: st) := z_get C (k := 2) (ci := 2) (slot := 7) (fd := (6, 43)) (T := TX_K) (by rw [hS]; decide) (by rw [hS]; exact rfl) (by rw [hS]; exact rfl) rfl lay_K (by decide) hl d kk
theorem gX_K_next {G : zG} {cc : ByteArray} {own : String} {ret : Option FieldType} {nL fr lc : Nat} (C : zC G cc own ret nL fr lc) {M : zM} {lo : List (Option Value)} {st : List Value} {pc : Nat} (hS : G.1 = sX) {idx : Nat} (hl : Cond.fieldLink own idx "OldBeams$Looks" "next" "[J" ∈ tb) (d : decode cc pc = .ok (.getfield idx, 3)) (kk : VJ G M (pc + 3) lo (.ref (zad G (44)) :: st)) : VJ G M pc lo (.ref (zad G 2) :: st) := z_get C (k := 2) (ci := 2) (slot := 8) (fd := (6, 44)) (T := TX_K) (by rw [hS]; decide) (by rw [hS]; exact rfl) (by rw [hS]; exact rfl) rfl lay_K (by decide) hl d kk
theorem gX_Q_above {G : zG} {cc : ByteArray} {own : String} {ret : Option FieldType} {nL fr lc : Nat} (C : zC G cc own ret nL fr lc) {M : zM} {lo : List (Option Value)} {st : List Value} {pc : Nat} (hS : G.1 = sX) {k : Nat} (hk : k = 3 ∨ k = 4) {idx : Nat} (hl : Cond.fieldLink own idx "OldBeams$Fraction" "above" "J" ∈ tb) (d : decode cc pc = .ok (.getfield idx, 3)) (kk : VJ G M (pc + 3) lo (.long (M.2 k 0) :: st)) : VJ G M pc lo (.ref (zad G k) :: st) := z_get C (k := k) (ci := 3) (slot := 0) (fd := (2, 0)) (T := TX_Q) (by rw [hS]; rcases hk with rfl | rfl <;> decide) (by rw [hS]; exact (by rcases hk with rfl | rfl <;> rfl)) (by rw [hS]; exact (by rcases hk with rfl | rfl <;> rfl)) rfl lay_Q (by decide) hl d kk
theorem pX_Q_above {G : zG} {cc : ByteArray} {own : String} {ret : Option FieldType} {nL fr lc : Nat} (C : zC G cc own ret nL fr lc) {M : zM} {lo : List (Option Value)} {st : List Value} {pc : Nat} (hS : G.1 = sX) {k : Nat} (hk : k = 3 ∨ k = 4) {idx : Nat} {z : Int64} (hl : Cond.fieldLink own idx "OldBeams$Fraction" "above" "J" ∈ tb) (d : decode cc pc = .ok (.putfield idx, 3)) (kk : VJ G (zJ M k 0 z) (pc + 3) lo st) : VJ G M pc lo (.long z :: .ref (zad G k) :: st) := z_putJ C (k := k) (ci := 3) (slot := 0) (x := 0) (T := TX_Q) (ty0 := ty_Q) (by rw [hS]; rcases hk with rfl | rfl <;> decide) (by rw [hS]; exact (by rcases hk with rfl | rfl <;> rfl)) (by rw [hS]; exact (by rcases hk with rfl | rfl <;> rfl)) rfl lay_Q tyok_Q nm_Q (by decide) rfl (by decide +kernel) hl d kk
theorem gX_Q_below {G : zG} {cc : ByteArray} {own : String} {ret : Option FieldType} {nL fr lc : Nat} (C : zC G cc own ret nL fr lc) {M : zM} {lo : List (Option Value)} {st : List Value} {pc : Nat} (hS : G.1 = sX) {k : Nat} (hk : k = 3 ∨ k = 4) {idx : Nat} (hl : Cond.fieldLink own idx "OldBeams$Fraction" "below" "J" ∈ tb) (d : decode cc pc = .ok (.getfield idx, 3)) (kk : VJ G M (pc + 3) lo (.long (M.2 k 1) :: st)) : VJ G M pc lo (.ref (zad G k) :: st) := z_get C (k := k) (ci := 3) (slot := 1) (fd := (2, 0)) (T := TX_Q) (by rw [hS]; rcases hk with rfl | rfl <;> decide) (by rw [hS]; exact (by rcases hk with rfl | rfl <;> rfl)) (by rw [hS]; exact (by rcases hk with rfl | rfl <;> rfl)) rfl lay_Q (by decide) hl d kk
theorem pX_Q_below {G : zG} {cc : ByteArray} {own : String} {ret : Option FieldType} {nL fr lc : Nat} (C : zC G cc own ret nL fr lc) {M : zM} {lo : List (Option Value)} {st : List Value} {pc : Nat} (hS : G.1 = sX) {k : Nat} (hk : k = 3 ∨ k = 4) {idx : Nat} {z : Int64} (hl : Cond.fieldLink own idx "OldBeams$Fraction" "below" "J" ∈ tb) (d : decode cc pc = .ok (.putfield idx, 3)) (kk : VJ G (zJ M k 1 z) (pc + 3) lo st) : VJ G M pc lo (.long z :: .ref (zad G k) :: st) := z_putJ C (k := k) (ci := 3) (slot := 1) (x := 0) (T := TX_Q) (ty0 := ty_Q) (by rw [hS]; rcases hk with rfl | rfl <;> decide) (by rw [hS]; exact (by rcases hk with rfl | rfl <;> rfl)) (by rw [hS]; exact (by rcases hk with rfl | rfl <;> rfl)) rfl lay_Q tyok_Q nm_Q (by decide) rfl (by decide +kernel) hl d kk
theorem gX_B_kind {G : zG} {cc : ByteArray} {own : String} {ret : Option FieldType} {nL fr lc : Nat} (C : zC G cc own ret nL fr lc) {M : zM} {lo : List (Option Value)} {st : List Value} {pc : Nat} (hS : G.1 = sX) {i : Nat} (hi : i < 12) {idx : Nat} (hl : Cond.fieldLink own idx "OldBeams$Beam" "kind" "I" ∈ tb) (d : decode cc pc = .ok (.getfield idx, 3)) (kk : VJ G M (pc + 3) lo (.int (iI (M.1 (45 + 7 * i) 0)) :: st)) : VJ G M pc lo (.ref (zad G (45 + 7 * i)) :: st) := z_get C (k := (45 + 7 * i)) (ci := 4) (slot := 0) (fd := (0, 0)) (T := TX_B) (by rw [hS]; show 45 + 7 * i < 129; omega) (by rw [hS]; exact (shB0 i)) (by rw [hS]; show (dsX (45 + 7 * i))[0]? = some (0, 0); rw [dsB]; rfl) rfl lay_B (by decide) hl d kk
theorem pX_B_kind {G : zG} {cc : ByteArray} {own : String} {ret : Option FieldType} {nL fr lc : Nat} (C : zC G cc own ret nL fr lc) {M : zM} {lo : List (Option Value)} {st : List Value} {pc : Nat} (hS : G.1 = sX) {i : Nat} (hi : i < 12) {idx : Nat} {z : Int} (hl : Cond.fieldLink own idx "OldBeams$Beam" "kind" "I" ∈ tb) (d : decode cc pc = .ok (.putfield idx, 3)) (kk : VJ G (zI M (45 + 7 * i) 0 z) (pc + 3) lo st) : VJ G M pc lo (.int (iI z) :: .ref (zad G (45 + 7 * i)) :: st) := z_putI C (k := (45 + 7 * i)) (ci := 4) (slot := 0) (x := 0) (T := TX_B) (ty0 := ty_B) (ty := .int) (by rw [hS]; show 45 + 7 * i < 129; omega) (by rw [hS]; exact (shB0 i)) (by rw [hS]; show (dsX (45 + 7 * i))[0]? = some (0, 0); rw [dsB]; rfl) rfl lay_B tyok_B nm_B (by decide) rfl (by decide +kernel) rfl rfl hl d kk
theorem gX_B_length {G : zG} {cc : ByteArray} {own : String} {ret : Option FieldType} {nL fr lc : Nat} (C : zC G cc own ret nL fr lc) {M : zM} {lo : List (Option Value)} {st : List Value} {pc : Nat} (hS : G.1 = sX) {i : Nat} (hi : i < 12) {idx : Nat} (hl : Cond.fieldLink own idx "OldBeams$Beam" "length" "I" ∈ tb) (d : decode cc pc = .ok (.getfield idx, 3)) (kk : VJ G M (pc + 3) lo (.int (iI (M.1 (45 + 7 * i) 1)) :: st)) : VJ G M pc lo (.ref (zad G (45 + 7 * i)) :: st) := z_get C (k := (45 + 7 * i)) (ci := 4) (slot := 1) (fd := (0, 0)) (T := TX_B) (by rw [hS]; show 45 + 7 * i < 129; omega) (by rw [hS]; exact (shB0 i)) (by rw [hS]; show (dsX (45 + 7 * i))[1]? = some (0, 0); rw [dsB]; rfl) rfl lay_B (by decide) hl d kk
theorem pX_B_length {G : zG} {cc : ByteArray} {own : String} {ret : Option FieldType} {nL fr lc : Nat} (C : zC G cc own ret nL fr lc) {M : zM} {lo : List (Option Value)} {st : List Value} {pc : Nat} (hS : G.1 = sX) {i : Nat} (hi : i < 12) {idx : Nat} {z : Int} (hl : Cond.fieldLink own idx "OldBeams$Beam" "length" "I" ∈ tb) (d : decode cc pc = .ok (.putfield idx, 3)) (kk : VJ G (zI M (45 + 7 * i) 1 z) (pc + 3) lo st) : VJ G M pc lo (.int (iI z) :: .ref (zad G (45 + 7 * i)) :: st) := z_putI C (k := (45 + 7 * i)) (ci := 4) (slot := 1) (x := 0) (T := TX_B) (ty0 := ty_B) (ty := .int) (by rw [hS]; show 45 + 7 * i < 129; omega) (by rw [hS]; exact (shB0 i)) (by rw [hS]; show (dsX (45 + 7 * i))[1]? = some (0, 0); rw [dsB]; rfl) rfl lay_B tyok_B nm_B (by decide) rfl (by decide +kernel) rfl rfl hl d kk
theorem gX_B_width {G : zG} {cc : ByteArray} {own : String} {ret : Option FieldType} {nL fr lc : Nat} (C : zC G cc own ret nL fr lc) {M : zM} {lo : List (Option Value)} {st : List Value} {pc : Nat} (hS : G.1 = sX) {i : Nat} (hi : i < 12) {idx : Nat} (hl : Cond.fieldLink own idx "OldBeams$Beam" "width" "I" ∈ tb) (d : decode cc pc = .ok (.getfield idx, 3)) (kk : VJ G M (pc + 3) lo (.int (iI (M.1 (45 + 7 * i) 2)) :: st)) : VJ G M pc lo (.ref (zad G (45 + 7 * i)) :: st) := z_get C (k := (45 + 7 * i)) (ci := 4) (slot := 2) (fd := (0, 0)) (T := TX_B) (by rw [hS]; show 45 + 7 * i < 129; omega) (by rw [hS]; exact (shB0 i)) (by rw [hS]; show (dsX (45 + 7 * i))[2]? = some (0, 0); rw [dsB]; rfl) rfl lay_B (by decide) hl d kk
theorem pX_B_width {G : zG} {cc : ByteArray} {own : String} {ret : Option FieldType} {nL fr lc : Nat} (C : zC G cc own ret nL fr lc) {M : zM} {lo : List (Option Value)} {st : List Value} {pc : Nat} (hS : G.1 = sX) {i : Nat} (hi : i < 12) {idx : Nat} {z : Int} (hl : Cond.fieldLink own idx "OldBeams$Beam" "width" "I" ∈ tb) (d : decode cc pc = .ok (.putfield idx, 3)) (kk : VJ G (zI M (45 + 7 * i) 2 z) (pc + 3) lo st) : VJ G M pc lo (.int (iI z) :: .ref (zad G (45 + 7 * i)) :: st) := z_putI C (k := (45 + 7 * i)) (ci := 4) (slot := 2) (x := 0) (T := TX_B) (ty0 := ty_B) (ty := .int) (by rw [hS]; show 45 + 7 * i < 129; omega) (by rw [hS]; exact (shB0 i)) (by rw [hS]; show (dsX (45 + 7 * i))[2]? = some (0, 0); rw [dsB]; rfl) rfl lay_B tyok_B nm_B (by decide) rfl (by decide +kernel) rfl rfl hl d kk
theorem gX_B_height {G : zG} {cc : ByteArray} {own : String} {ret : Option FieldType} {nL fr lc : Nat} (C : zC G cc own ret nL fr lc) {M : zM} {lo : List (Option Value)} {st : List Value} {pc : Nat} (hS : G.1 = sX) {i : Nat} (hi : i < 12) {idx : Nat} (hl : Cond.fieldLink own idx "OldBeams$Beam" "height" "I" ∈ tb) (d : decode cc pc = .ok (.getfield idx, 3)) (kk : VJ G M (pc + 3) lo (.int (iI (M.1 (45 + 7 * i) 3)) :: st)) : VJ G M pc lo (.ref (zad G (45 + 7 * i)) :: st) := z_get C (k := (45 + 7 * i)) (ci := 4) (slot := 3) (fd := (0, 0)) (T := TX_B) (by rw [hS]; show 45 + 7 * i < 129; omega) (by rw [hS]; exact (shB0 i)) (by rw [hS]; show (dsX (45 + 7 * i))[3]? = some (0, 0); rw [dsB]; rfl) rfl lay_B (by decide) hl d kk
theorem pX_B_height {G : zG} {cc : ByteArray} {own : String} {ret : Option FieldType} {nL fr lc : Nat} (C : zC G cc own ret nL fr lc) {M : zM} {lo : List (Option Value)} {st : List Value} {pc : Nat} (hS : G.1 = sX) {i : Nat} (hi : i < 12) {idx : Nat} {z : Int} (hl : Cond.fieldLink own idx "OldBeams$Beam" "height" "I" ∈ tb) (d : decode cc pc = .ok (.putfield idx, 3)) (kk : VJ G (zI M (45 + 7 * i) 3 z) (pc + 3) lo st) : VJ G M pc lo (.int (iI z) :: .ref (zad G (45 + 7 * i)) :: st) := z_putI C (k := (45 + 7 * i)) (ci := 4) (slot := 3) (x := 0) (T := TX_B) (ty0 := ty_B) (ty := .int) (by rw [hS]; show 45 + 7 * i < 129; omega) (by rw [hS]; exact (shB0 i)) (by rw [hS]; show (dsX (45 + 7 * i))[3]? = some (0, 0); rw [dsB]; rfl) rfl lay_B tyok_B nm_B (by decide) rfl (by decide +kernel) rfl rfl hl d kk
theorem gX_B_isWet {G : zG} {cc : ByteArray} {own : String} {ret : Option FieldType} {nL fr lc : Nat} (C : zC G cc own ret nL fr lc) {M : zM} {lo : List (Option Value)} {st : List Value} {pc : Nat} (hS : G.1 = sX) {i : Nat} (hi : i < 12) {idx : Nat} (hl : Cond.fieldLink own idx "OldBeams$Beam" "isWet" "Z" ∈ tb) (d : decode cc pc = .ok (.getfield idx, 3)) (kk : VJ G M (pc + 3) lo (.int (iI (M.1 (45 + 7 * i) 4)) :: st)) : VJ G M pc lo (.ref (zad G (45 + 7 * i)) :: st) := z_get C (k := (45 + 7 * i)) (ci := 4) (slot := 4) (fd := (0, 0)) (T := TX_B) (by rw [hS]; show 45 + 7 * i < 129; omega) (by rw [hS]; exact (shB0 i)) (by rw [hS]; show (dsX (45 + 7 * i))[4]? = some (0, 0); rw [dsB]; rfl) rfl lay_B (by decide) hl d kk
theorem pX_B_isWet {G : zG} {cc : ByteArray} {own : String} {ret : Option FieldType} {nL fr lc : Nat} (C : zC G cc own ret nL fr lc) {M : zM} {lo : List (Option Value)} {st : List Value} {pc : Nat} (hS : G.1 = sX) {i : Nat} (hi : i < 12) {idx : Nat} {z : Int} (h01 : z = 0 ∨ z = 1) (hl : Cond.fieldLink own idx "OldBeams$Beam" "isWet" "Z" ∈ tb) (d : decode cc pc = .ok (.putfield idx, 3)) (kk : VJ G (zI M (45 + 7 * i) 4 z) (pc + 3) lo st) : VJ G M pc lo (.int (iI z) :: .ref (zad G (45 + 7 * i)) :: st) := z_putI C (k := (45 + 7 * i)) (ci := 4) (slot := 4) (x := 0) (T := TX_B) (ty0 := ty_B) (ty := .boolean) (by rw [hS]; show 45 + 7 * i < 129; omega) (by rw [hS]; exact (shB0 i)) (by rw [hS]; show (dsX (45 + 7 * i))[4]? = some (0, 0); rw [dsB]; rfl) rfl lay_B tyok_B nm_B (by decide) rfl (by decide +kernel) (by rcases h01 with rfl | rfl <;> rfl) (by rcases h01 with rfl | rfl <;> rfl) hl d kk
theorem gX_B_place {G : zG} {cc : ByteArray} {own : String} {ret : Option FieldType} {nL fr lc : Nat} (C : zC G cc own ret nL fr lc) {M : zM} {lo : List (Option Value)} {st : List Value} {pc : Nat} (hS : G.1 = sX) {i : Nat} (hi : i < 12) {idx : Nat} (hl : Cond.fieldLink own idx "OldBeams$Beam" "place" "[I" ∈ tb) (d : decode cc pc = .ok (.getfield idx, 3)) (kk : VJ G M (pc + 3) lo (.ref (zad G (45 + 7 * i + 1)) :: st)) : VJ G M pc lo (.ref (zad G (45 + 7 * i)) :: st) := z_get C (k := (45 + 7 * i)) (ci := 4) (slot := 5) (fd := (6, 45 + 7 * i + 1)) (T := TX_B) (by rw [hS]; show 45 + 7 * i < 129; omega) (by rw [hS]; exact (shB0 i)) (by rw [hS]; show (dsX (45 + 7 * i))[5]? = some (6, 45 + 7 * i + 1); rw [dsB]; rfl) rfl lay_B (by decide) hl d kk
theorem gX_B_on {G : zG} {cc : ByteArray} {own : String} {ret : Option FieldType} {nL fr lc : Nat} (C : zC G cc own ret nL fr lc) {M : zM} {lo : List (Option Value)} {st : List Value} {pc : Nat} (hS : G.1 = sX) {i : Nat} (hi : i < 12) {idx : Nat} (hl : Cond.fieldLink own idx "OldBeams$Beam" "on" "[I" ∈ tb) (d : decode cc pc = .ok (.getfield idx, 3)) (kk : VJ G M (pc + 3) lo (.ref (zad G (45 + 7 * i + 2)) :: st)) : VJ G M pc lo (.ref (zad G (45 + 7 * i)) :: st) := z_get C (k := (45 + 7 * i)) (ci := 4) (slot := 6) (fd := (6, 45 + 7 * i + 2)) (T := TX_B) (by rw [hS]; show 45 + 7 * i < 129; omega) (by rw [hS]; exact (shB0 i)) (by rw [hS]; show (dsX (45 + 7 * i))[6]? = some (6, 45 + 7 * i + 2); rw [dsB]; rfl) rfl lay_B (by decide) hl d kk
theorem gX_B_where {G : zG} {cc : ByteArray} {own : String} {ret : Option FieldType} {nL fr lc : Nat} (C : zC G cc own ret nL fr lc) {M : zM} {lo : List (Option Value)} {st : List Value} {pc : Nat} (hS : G.1 = sX) {i : Nat} (hi : i < 12) {idx : Nat} (hl : Cond.fieldLink own idx "OldBeams$Beam" "where" "[I" ∈ tb) (d : decode cc pc = .ok (.getfield idx, 3)) (kk : VJ G M (pc + 3) lo (.ref (zad G (45 + 7 * i + 3)) :: st)) : VJ G M pc lo (.ref (zad G (45 + 7 * i)) :: st) := z_get C (k := (45 + 7 * i)) (ci := 4) (slot := 7) (fd := (6, 45 + 7 * i + 3)) (T := TX_B) (by rw [hS]; show 45 + 7 * i < 129; omega) (by rw [hS]; exact (shB0 i)) (by rw [hS]; show (dsX (45 + 7 * i))[7]? = some (6, 45 + 7 * i + 3); rw [dsB]; rfl) rfl lay_B (by decide) hl d kk
theorem gX_B_loaded {G : zG} {cc : ByteArray} {own : String} {ret : Option FieldType} {nL fr lc : Nat} (C : zC G cc own ret nL fr lc) {M : zM} {lo : List (Option Value)} {st : List Value} {pc : Nat} (hS : G.1 = sX) {i : Nat} (hi : i < 12) {idx : Nat} (hl : Cond.fieldLink own idx "OldBeams$Beam" "loaded" "[J" ∈ tb) (d : decode cc pc = .ok (.getfield idx, 3)) (kk : VJ G M (pc + 3) lo (.ref (zad G (45 + 7 * i + 4)) :: st)) : VJ G M pc lo (.ref (zad G (45 + 7 * i)) :: st) := z_get C (k := (45 + 7 * i)) (ci := 4) (slot := 8) (fd := (6, 45 + 7 * i + 4)) (T := TX_B) (by rw [hS]; show 45 + 7 * i < 129; omega) (by rw [hS]; exact (shB0 i)) (by rw [hS]; show (dsX (45 + 7 * i))[8]? = some (6, 45 + 7 * i + 4); rw [dsB]; rfl) rfl lay_B (by decide) hl d kk
theorem gX_B_forces {G : zG} {cc : ByteArray} {own : String} {ret : Option FieldType} {nL fr lc : Nat} (C : zC G cc own ret nL fr lc) {M : zM} {lo : List (Option Value)} {st : List Value} {pc : Nat} (hS : G.1 = sX) {i : Nat} (hi : i < 12) {idx : Nat} (hl : Cond.fieldLink own idx "OldBeams$Beam" "forces" "[J" ∈ tb) (d : decode cc pc = .ok (.getfield idx, 3)) (kk : VJ G M (pc + 3) lo (.ref (zad G (45 + 7 * i + 5)) :: st)) : VJ G M pc lo (.ref (zad G (45 + 7 * i)) :: st) := z_get C (k := (45 + 7 * i)) (ci := 4) (slot := 9) (fd := (6, 45 + 7 * i + 5)) (T := TX_B) (by rw [hS]; show 45 + 7 * i < 129; omega) (by rw [hS]; exact (shB0 i)) (by rw [hS]; show (dsX (45 + 7 * i))[9]? = some (6, 45 + 7 * i + 5); rw [dsB]; rfl) rfl lay_B (by decide) hl d kk
theorem gX_B_push {G : zG} {cc : ByteArray} {own : String} {ret : Option FieldType} {nL fr lc : Nat} (C : zC G cc own ret nL fr lc) {M : zM} {lo : List (Option Value)} {st : List Value} {pc : Nat} (hS : G.1 = sX) {i : Nat} (hi : i < 12) {idx : Nat} (hl : Cond.fieldLink own idx "OldBeams$Beam" "push" "[J" ∈ tb) (d : decode cc pc = .ok (.getfield idx, 3)) (kk : VJ G M (pc + 3) lo (.ref (zad G (45 + 7 * i + 6)) :: st)) : VJ G M pc lo (.ref (zad G (45 + 7 * i)) :: st) := z_get C (k := (45 + 7 * i)) (ci := 4) (slot := 10) (fd := (6, 45 + 7 * i + 6)) (T := TX_B) (by rw [hS]; show 45 + 7 * i < 129; omega) (by rw [hS]; exact (shB0 i)) (by rw [hS]; show (dsX (45 + 7 * i))[10]? = some (6, 45 + 7 * i + 6); rw [dsB]; rfl) rfl lay_B (by decide) hl d kk
theorem gX_B_greatestBending {G : zG} {cc : ByteArray} {own : String} {ret : Option FieldType} {nL fr lc : Nat} (C : zC G cc own ret nL fr lc) {M : zM} {lo : List (Option Value)} {st : List Value} {pc : Nat} (hS : G.1 = sX) {i : Nat} (hi : i < 12) {idx : Nat} (hl : Cond.fieldLink own idx "OldBeams$Beam" "greatestBending" "J" ∈ tb) (d : decode cc pc = .ok (.getfield idx, 3)) (kk : VJ G M (pc + 3) lo (.long (M.2 (45 + 7 * i) 11) :: st)) : VJ G M pc lo (.ref (zad G (45 + 7 * i)) :: st) := z_get C (k := (45 + 7 * i)) (ci := 4) (slot := 11) (fd := (2, 0)) (T := TX_B) (by rw [hS]; show 45 + 7 * i < 129; omega) (by rw [hS]; exact (shB0 i)) (by rw [hS]; show (dsX (45 + 7 * i))[11]? = some (2, 0); rw [dsB]; rfl) rfl lay_B (by decide) hl d kk
theorem pX_B_greatestBending {G : zG} {cc : ByteArray} {own : String} {ret : Option FieldType} {nL fr lc : Nat} (C : zC G cc own ret nL fr lc) {M : zM} {lo : List (Option Value)} {st : List Value} {pc : Nat} (hS : G.1 = sX) {i : Nat} (hi : i < 12) {idx : Nat} {z : Int64} (hl : Cond.fieldLink own idx "OldBeams$Beam" "greatestBending" "J" ∈ tb) (d : decode cc pc = .ok (.putfield idx, 3)) (kk : VJ G (zJ M (45 + 7 * i) 11 z) (pc + 3) lo st) : VJ G M pc lo (.long z :: .ref (zad G (45 + 7 * i)) :: st) := z_putJ C (k := (45 + 7 * i)) (ci := 4) (slot := 11) (x := 0) (T := TX_B) (ty0 := ty_B) (by rw [hS]; show 45 + 7 * i < 129; omega) (by rw [hS]; exact (shB0 i)) (by rw [hS]; show (dsX (45 + 7 * i))[11]? = some (2, 0); rw [dsB]; rfl) rfl lay_B tyok_B nm_B (by decide) rfl (by decide +kernel) hl d kk
theorem gX_B_greatestPlace {G : zG} {cc : ByteArray} {own : String} {ret : Option FieldType} {nL fr lc : Nat} (C : zC G cc own ret nL fr lc) {M : zM} {lo : List (Option Value)} {st : List Value} {pc : Nat} (hS : G.1 = sX) {i : Nat} (hi : i < 12) {idx : Nat} (hl : Cond.fieldLink own idx "OldBeams$Beam" "greatestPlace" "I" ∈ tb) (d : decode cc pc = .ok (.getfield idx, 3)) (kk : VJ G M (pc + 3) lo (.int (iI (M.1 (45 + 7 * i) 12)) :: st)) : VJ G M pc lo (.ref (zad G (45 + 7 * i)) :: st) := z_get C (k := (45 + 7 * i)) (ci := 4) (slot := 12) (fd := (0, 0)) (T := TX_B) (by rw [hS]; show 45 + 7 * i < 129; omega) (by rw [hS]; exact (shB0 i)) (by rw [hS]; show (dsX (45 + 7 * i))[12]? = some (0, 0); rw [dsB]; rfl) rfl lay_B (by decide) hl d kk
theorem pX_B_greatestPlace {G : zG} {cc : ByteArray} {own : String} {ret : Option FieldType} {nL fr lc : Nat} (C : zC G cc own ret nL fr lc) {M : zM} {lo : List (Option Value)} {st : List Value} {pc : Nat} (hS : G.1 = sX) {i : Nat} (hi : i < 12) {idx : Nat} {z : Int} (hl : Cond.fieldLink own idx "OldBeams$Beam" "greatestPlace" "I" ∈ tb) (d : decode cc pc = .ok (.putfield idx, 3)) (kk : VJ G (zI M (45 + 7 * i) 12 z) (pc + 3) lo st) : VJ G M pc lo (.int (iI z) :: .ref (zad G (45 + 7 * i)) :: st) := z_putI C (k := (45 + 7 * i)) (ci := 4) (slot := 12) (x := 0) (T := TX_B) (ty0 := ty_B) (ty := .int) (by rw [hS]; show 45 + 7 * i < 129; omega) (by rw [hS]; exact (shB0 i)) (by rw [hS]; show (dsX (45 + 7 * i))[12]? = some (0, 0); rw [dsB]; rfl) rfl lay_B tyok_B nm_B (by decide) rfl (by decide +kernel) rfl rfl hl d kk
theorem gM_M_grade {G : zG} {cc : ByteArray} {own : String} {ret : Option FieldType} {nL fr lc : Nat} (C : zC G cc own ret nL fr lc) {M : zM} {lo : List (Option Value)} {st : List Value} {pc : Nat} (hS : G.1 = sM) {idx : Nat} (hl : Cond.fieldLink own idx "OldBeamsModel" "grade" "[I" ∈ tb) (d : decode cc pc = .ok (.getfield idx, 3)) (kk : VJ G M (pc + 3) lo (.ref (zad G (1)) :: st)) : VJ G M pc lo (.ref (zad G 0) :: st) := z_get C (k := 0) (ci := 5) (slot := 0) (fd := (6, 1)) (T := TX_M) (by rw [hS]; decide) (by rw [hS]; exact rfl) (by rw [hS]; exact rfl) rfl lay_M (by decide) hl d kk
theorem gM_M_rot {G : zG} {cc : ByteArray} {own : String} {ret : Option FieldType} {nL fr lc : Nat} (C : zC G cc own ret nL fr lc) {M : zM} {lo : List (Option Value)} {st : List Value} {pc : Nat} (hS : G.1 = sM) {idx : Nat} (hl : Cond.fieldLink own idx "OldBeamsModel" "rot" "[I" ∈ tb) (d : decode cc pc = .ok (.getfield idx, 3)) (kk : VJ G M (pc + 3) lo (.ref (zad G (2)) :: st)) : VJ G M pc lo (.ref (zad G 0) :: st) := z_get C (k := 0) (ci := 5) (slot := 1) (fd := (6, 2)) (T := TX_M) (by rw [hS]; decide) (by rw [hS]; exact rfl) (by rw [hS]; exact rfl) rfl lay_M (by decide) hl d kk
theorem gM_M_beams {G : zG} {cc : ByteArray} {own : String} {ret : Option FieldType} {nL fr lc : Nat} (C : zC G cc own ret nL fr lc) {M : zM} {lo : List (Option Value)} {st : List Value} {pc : Nat} (hS : G.1 = sM) {idx : Nat} (hl : Cond.fieldLink own idx "OldBeamsModel" "beams" "I" ∈ tb) (d : decode cc pc = .ok (.getfield idx, 3)) (kk : VJ G M (pc + 3) lo (.int (iI (M.1 0 2)) :: st)) : VJ G M pc lo (.ref (zad G 0) :: st) := z_get C (k := 0) (ci := 5) (slot := 2) (fd := (0, 0)) (T := TX_M) (by rw [hS]; decide) (by rw [hS]; exact rfl) (by rw [hS]; exact rfl) rfl lay_M (by decide) hl d kk
theorem pM_M_beams {G : zG} {cc : ByteArray} {own : String} {ret : Option FieldType} {nL fr lc : Nat} (C : zC G cc own ret nL fr lc) {M : zM} {lo : List (Option Value)} {st : List Value} {pc : Nat} (hS : G.1 = sM) {idx : Nat} {z : Int} (hl : Cond.fieldLink own idx "OldBeamsModel" "beams" "I" ∈ tb) (d : decode cc pc = .ok (.putfield idx, 3)) (kk : VJ G (zI M 0 2 z) (pc + 3) lo st) : VJ G M pc lo (.int (iI z) :: .ref (zad G 0) :: st) := z_putI C (k := 0) (ci := 5) (slot := 2) (x := 0) (T := TX_M) (ty0 := ty_M) (ty := .int) (by rw [hS]; decide) (by rw [hS]; exact rfl) (by rw [hS]; exact rfl) rfl lay_M tyok_M nm_M (by decide) rfl (by decide +kernel) rfl rfl hl d kk
theorem gM_M_kind {G : zG} {cc : ByteArray} {own : String} {ret : Option FieldType} {nL fr lc : Nat} (C : zC G cc own ret nL fr lc) {M : zM} {lo : List (Option Value)} {st : List Value} {pc : Nat} (hS : G.1 = sM) {idx : Nat} (hl : Cond.fieldLink own idx "OldBeamsModel" "kind" "[I" ∈ tb) (d : decode cc pc = .ok (.getfield idx, 3)) (kk : VJ G M (pc + 3) lo (.ref (zad G (3)) :: st)) : VJ G M pc lo (.ref (zad G 0) :: st) := z_get C (k := 0) (ci := 5) (slot := 3) (fd := (6, 3)) (T := TX_M) (by rw [hS]; decide) (by rw [hS]; exact rfl) (by rw [hS]; exact rfl) rfl lay_M (by decide) hl d kk
theorem gM_M_length {G : zG} {cc : ByteArray} {own : String} {ret : Option FieldType} {nL fr lc : Nat} (C : zC G cc own ret nL fr lc) {M : zM} {lo : List (Option Value)} {st : List Value} {pc : Nat} (hS : G.1 = sM) {idx : Nat} (hl : Cond.fieldLink own idx "OldBeamsModel" "length" "[I" ∈ tb) (d : decode cc pc = .ok (.getfield idx, 3)) (kk : VJ G M (pc + 3) lo (.ref (zad G (4)) :: st)) : VJ G M pc lo (.ref (zad G 0) :: st) := z_get C (k := 0) (ci := 5) (slot := 4) (fd := (6, 4)) (T := TX_M) (by rw [hS]; decide) (by rw [hS]; exact rfl) (by rw [hS]; exact rfl) rfl lay_M (by decide) hl d kk
theorem gM_M_width {G : zG} {cc : ByteArray} {own : String} {ret : Option FieldType} {nL fr lc : Nat} (C : zC G cc own ret nL fr lc) {M : zM} {lo : List (Option Value)} {st : List Value} {pc : Nat} (hS : G.1 = sM) {idx : Nat} (hl : Cond.fieldLink own idx "OldBeamsModel" "width" "[I" ∈ tb) (d : decode cc pc = .ok (.getfield idx, 3)) (kk : VJ G M (pc + 3) lo (.ref (zad G (5)) :: st)) : VJ G M pc lo (.ref (zad G 0) :: st) := z_get C (k := 0) (ci := 5) (slot := 5) (fd := (6, 5)) (T := TX_M) (by rw [hS]; decide) (by rw [hS]; exact rfl) (by rw [hS]; exact rfl) rfl lay_M (by decide) hl d kk
theorem gM_M_height {G : zG} {cc : ByteArray} {own : String} {ret : Option FieldType} {nL fr lc : Nat} (C : zC G cc own ret nL fr lc) {M : zM} {lo : List (Option Value)} {st : List Value} {pc : Nat} (hS : G.1 = sM) {idx : Nat} (hl : Cond.fieldLink own idx "OldBeamsModel" "height" "[I" ∈ tb) (d : decode cc pc = .ok (.getfield idx, 3)) (kk : VJ G M (pc + 3) lo (.ref (zad G (6)) :: st)) : VJ G M pc lo (.ref (zad G 0) :: st) := z_get C (k := 0) (ci := 5) (slot := 6) (fd := (6, 6)) (T := TX_M) (by rw [hS]; decide) (by rw [hS]; exact rfl) (by rw [hS]; exact rfl) rfl lay_M (by decide) hl d kk
theorem gM_M_isWet {G : zG} {cc : ByteArray} {own : String} {ret : Option FieldType} {nL fr lc : Nat} (C : zC G cc own ret nL fr lc) {M : zM} {lo : List (Option Value)} {st : List Value} {pc : Nat} (hS : G.1 = sM) {idx : Nat} (hl : Cond.fieldLink own idx "OldBeamsModel" "isWet" "[Z" ∈ tb) (d : decode cc pc = .ok (.getfield idx, 3)) (kk : VJ G M (pc + 3) lo (.ref (zad G (7)) :: st)) : VJ G M pc lo (.ref (zad G 0) :: st) := z_get C (k := 0) (ci := 5) (slot := 7) (fd := (6, 7)) (T := TX_M) (by rw [hS]; decide) (by rw [hS]; exact rfl) (by rw [hS]; exact rfl) rfl lay_M (by decide) hl d kk
theorem gM_M_hasFallen {G : zG} {cc : ByteArray} {own : String} {ret : Option FieldType} {nL fr lc : Nat} (C : zC G cc own ret nL fr lc) {M : zM} {lo : List (Option Value)} {st : List Value} {pc : Nat} (hS : G.1 = sM) {idx : Nat} (hl : Cond.fieldLink own idx "OldBeamsModel" "hasFallen" "[Z" ∈ tb) (d : decode cc pc = .ok (.getfield idx, 3)) (kk : VJ G M (pc + 3) lo (.ref (zad G (8)) :: st)) : VJ G M pc lo (.ref (zad G 0) :: st) := z_get C (k := 0) (ci := 5) (slot := 8) (fd := (6, 8)) (T := TX_M) (by rw [hS]; decide) (by rw [hS]; exact rfl) (by rw [hS]; exact rfl) rfl lay_M (by decide) hl d kk
theorem gM_M_seatAt {G : zG} {cc : ByteArray} {own : String} {ret : Option FieldType} {nL fr lc : Nat} (C : zC G cc own ret nL fr lc) {M : zM} {lo : List (Option Value)} {st : List Value} {pc : Nat} (hS : G.1 = sM) {idx : Nat} (hl : Cond.fieldLink own idx "OldBeamsModel" "seatAt" "[I" ∈ tb) (d : decode cc pc = .ok (.getfield idx, 3)) (kk : VJ G M (pc + 3) lo (.ref (zad G (9)) :: st)) : VJ G M pc lo (.ref (zad G 0) :: st) := z_get C (k := 0) (ci := 5) (slot := 9) (fd := (6, 9)) (T := TX_M) (by rw [hS]; decide) (by rw [hS]; exact rfl) (by rw [hS]; exact rfl) rfl lay_M (by decide) hl d kk
theorem gM_M_seatOn {G : zG} {cc : ByteArray} {own : String} {ret : Option FieldType} {nL fr lc : Nat} (C : zC G cc own ret nL fr lc) {M : zM} {lo : List (Option Value)} {st : List Value} {pc : Nat} (hS : G.1 = sM) {idx : Nat} (hl : Cond.fieldLink own idx "OldBeamsModel" "seatOn" "[I" ∈ tb) (d : decode cc pc = .ok (.getfield idx, 3)) (kk : VJ G M (pc + 3) lo (.ref (zad G (10)) :: st)) : VJ G M pc lo (.ref (zad G 0) :: st) := z_get C (k := 0) (ci := 5) (slot := 10) (fd := (6, 10)) (T := TX_M) (by rw [hS]; decide) (by rw [hS]; exact rfl) (by rw [hS]; exact rfl) rfl lay_M (by decide) hl d kk
theorem gM_M_seatWhere {G : zG} {cc : ByteArray} {own : String} {ret : Option FieldType} {nL fr lc : Nat} (C : zC G cc own ret nL fr lc) {M : zM} {lo : List (Option Value)} {st : List Value} {pc : Nat} (hS : G.1 = sM) {idx : Nat} (hl : Cond.fieldLink own idx "OldBeamsModel" "seatWhere" "[I" ∈ tb) (d : decode cc pc = .ok (.getfield idx, 3)) (kk : VJ G M (pc + 3) lo (.ref (zad G (11)) :: st)) : VJ G M pc lo (.ref (zad G 0) :: st) := z_get C (k := 0) (ci := 5) (slot := 11) (fd := (6, 11)) (T := TX_M) (by rw [hS]; decide) (by rw [hS]; exact rfl) (by rw [hS]; exact rfl) rfl lay_M (by decide) hl d kk
theorem gM_M_loads {G : zG} {cc : ByteArray} {own : String} {ret : Option FieldType} {nL fr lc : Nat} (C : zC G cc own ret nL fr lc) {M : zM} {lo : List (Option Value)} {st : List Value} {pc : Nat} (hS : G.1 = sM) {idx : Nat} (hl : Cond.fieldLink own idx "OldBeamsModel" "loads" "I" ∈ tb) (d : decode cc pc = .ok (.getfield idx, 3)) (kk : VJ G M (pc + 3) lo (.int (iI (M.1 0 12)) :: st)) : VJ G M pc lo (.ref (zad G 0) :: st) := z_get C (k := 0) (ci := 5) (slot := 12) (fd := (0, 0)) (T := TX_M) (by rw [hS]; decide) (by rw [hS]; exact rfl) (by rw [hS]; exact rfl) rfl lay_M (by decide) hl d kk
theorem pM_M_loads {G : zG} {cc : ByteArray} {own : String} {ret : Option FieldType} {nL fr lc : Nat} (C : zC G cc own ret nL fr lc) {M : zM} {lo : List (Option Value)} {st : List Value} {pc : Nat} (hS : G.1 = sM) {idx : Nat} {z : Int} (hl : Cond.fieldLink own idx "OldBeamsModel" "loads" "I" ∈ tb) (d : decode cc pc = .ok (.putfield idx, 3)) (kk : VJ G (zI M 0 12 z) (pc + 3) lo st) : VJ G M pc lo (.int (iI z) :: .ref (zad G 0) :: st) := z_putI C (k := 0) (ci := 5) (slot := 12) (x := 0) (T := TX_M) (ty0 := ty_M) (ty := .int) (by rw [hS]; decide) (by rw [hS]; exact rfl) (by rw [hS]; exact rfl) rfl lay_M tyok_M nm_M (by decide) rfl (by decide +kernel) rfl rfl hl d kk
theorem gM_M_loadBeam {G : zG} {cc : ByteArray} {own : String} {ret : Option FieldType} {nL fr lc : Nat} (C : zC G cc own ret nL fr lc) {M : zM} {lo : List (Option Value)} {st : List Value} {pc : Nat} (hS : G.1 = sM) {idx : Nat} (hl : Cond.fieldLink own idx "OldBeamsModel" "loadBeam" "[I" ∈ tb) (d : decode cc pc = .ok (.getfield idx, 3)) (kk : VJ G M (pc + 3) lo (.ref (zad G (12)) :: st)) : VJ G M pc lo (.ref (zad G 0) :: st) := z_get C (k := 0) (ci := 5) (slot := 13) (fd := (6, 12)) (T := TX_M) (by rw [hS]; decide) (by rw [hS]; exact rfl) (by rw [hS]; exact rfl) rfl lay_M (by decide) hl d kk
theorem gM_M_loadPlace {G : zG} {cc : ByteArray} {own : String} {ret : Option FieldType} {nL fr lc : Nat} (C : zC G cc own ret nL fr lc) {M : zM} {lo : List (Option Value)} {st : List Value} {pc : Nat} (hS : G.1 = sM) {idx : Nat} (hl : Cond.fieldLink own idx "OldBeamsModel" "loadPlace" "[I" ∈ tb) (d : decode cc pc = .ok (.getfield idx, 3)) (kk : VJ G M (pc + 3) lo (.ref (zad G (13)) :: st)) : VJ G M pc lo (.ref (zad G 0) :: st) := z_get C (k := 0) (ci := 5) (slot := 14) (fd := (6, 13)) (T := TX_M) (by rw [hS]; decide) (by rw [hS]; exact rfl) (by rw [hS]; exact rfl) rfl lay_M (by decide) hl d kk
theorem gM_M_loadWeight {G : zG} {cc : ByteArray} {own : String} {ret : Option FieldType} {nL fr lc : Nat} (C : zC G cc own ret nL fr lc) {M : zM} {lo : List (Option Value)} {st : List Value} {pc : Nat} (hS : G.1 = sM) {idx : Nat} (hl : Cond.fieldLink own idx "OldBeamsModel" "loadWeight" "[I" ∈ tb) (d : decode cc pc = .ok (.getfield idx, 3)) (kk : VJ G M (pc + 3) lo (.ref (zad G (14)) :: st)) : VJ G M pc lo (.ref (zad G 0) :: st) := z_get C (k := 0) (ci := 5) (slot := 15) (fd := (6, 14)) (T := TX_M) (by rw [hS]; decide) (by rw [hS]; exact rfl) (by rw [hS]; exact rfl) rfl lay_M (by decide) hl d kk
theorem gM_M_isOff {G : zG} {cc : ByteArray} {own : String} {ret : Option FieldType} {nL fr lc : Nat} (C : zC G cc own ret nL fr lc) {M : zM} {lo : List (Option Value)} {st : List Value} {pc : Nat} (hS : G.1 = sM) {idx : Nat} (hl : Cond.fieldLink own idx "OldBeamsModel" "isOff" "[Z" ∈ tb) (d : decode cc pc = .ok (.getfield idx, 3)) (kk : VJ G M (pc + 3) lo (.ref (zad G (15)) :: st)) : VJ G M pc lo (.ref (zad G 0) :: st) := z_get C (k := 0) (ci := 5) (slot := 16) (fd := (6, 15)) (T := TX_M) (by rw [hS]; decide) (by rw [hS]; exact rfl) (by rw [hS]; exact rfl) rfl lay_M (by decide) hl d kk
theorem gM_M_props {G : zG} {cc : ByteArray} {own : String} {ret : Option FieldType} {nL fr lc : Nat} (C : zC G cc own ret nL fr lc) {M : zM} {lo : List (Option Value)} {st : List Value} {pc : Nat} (hS : G.1 = sM) {idx : Nat} (hl : Cond.fieldLink own idx "OldBeamsModel" "props" "I" ∈ tb) (d : decode cc pc = .ok (.getfield idx, 3)) (kk : VJ G M (pc + 3) lo (.int (iI (M.1 0 17)) :: st)) : VJ G M pc lo (.ref (zad G 0) :: st) := z_get C (k := 0) (ci := 5) (slot := 17) (fd := (0, 0)) (T := TX_M) (by rw [hS]; decide) (by rw [hS]; exact rfl) (by rw [hS]; exact rfl) rfl lay_M (by decide) hl d kk
theorem pM_M_props {G : zG} {cc : ByteArray} {own : String} {ret : Option FieldType} {nL fr lc : Nat} (C : zC G cc own ret nL fr lc) {M : zM} {lo : List (Option Value)} {st : List Value} {pc : Nat} (hS : G.1 = sM) {idx : Nat} {z : Int} (hl : Cond.fieldLink own idx "OldBeamsModel" "props" "I" ∈ tb) (d : decode cc pc = .ok (.putfield idx, 3)) (kk : VJ G (zI M 0 17 z) (pc + 3) lo st) : VJ G M pc lo (.int (iI z) :: .ref (zad G 0) :: st) := z_putI C (k := 0) (ci := 5) (slot := 17) (x := 0) (T := TX_M) (ty0 := ty_M) (ty := .int) (by rw [hS]; decide) (by rw [hS]; exact rfl) (by rw [hS]; exact rfl) rfl lay_M tyok_M nm_M (by decide) rfl (by decide +kernel) rfl rfl hl d kk
theorem gM_M_propBeam {G : zG} {cc : ByteArray} {own : String} {ret : Option FieldType} {nL fr lc : Nat} (C : zC G cc own ret nL fr lc) {M : zM} {lo : List (Option Value)} {st : List Value} {pc : Nat} (hS : G.1 = sM) {idx : Nat} (hl : Cond.fieldLink own idx "OldBeamsModel" "propBeam" "[I" ∈ tb) (d : decode cc pc = .ok (.getfield idx, 3)) (kk : VJ G M (pc + 3) lo (.ref (zad G (16)) :: st)) : VJ G M pc lo (.ref (zad G 0) :: st) := z_get C (k := 0) (ci := 5) (slot := 18) (fd := (6, 16)) (T := TX_M) (by rw [hS]; decide) (by rw [hS]; exact rfl) (by rw [hS]; exact rfl) rfl lay_M (by decide) hl d kk
theorem gM_M_propPlace {G : zG} {cc : ByteArray} {own : String} {ret : Option FieldType} {nL fr lc : Nat} (C : zC G cc own ret nL fr lc) {M : zM} {lo : List (Option Value)} {st : List Value} {pc : Nat} (hS : G.1 = sM) {idx : Nat} (hl : Cond.fieldLink own idx "OldBeamsModel" "propPlace" "[I" ∈ tb) (d : decode cc pc = .ok (.getfield idx, 3)) (kk : VJ G M (pc + 3) lo (.ref (zad G (17)) :: st)) : VJ G M pc lo (.ref (zad G 0) :: st) := z_get C (k := 0) (ci := 5) (slot := 19) (fd := (6, 17)) (T := TX_M) (by rw [hS]; decide) (by rw [hS]; exact rfl) (by rw [hS]; exact rfl) rfl lay_M (by decide) hl d kk
theorem gM_M_propPush {G : zG} {cc : ByteArray} {own : String} {ret : Option FieldType} {nL fr lc : Nat} (C : zC G cc own ret nL fr lc) {M : zM} {lo : List (Option Value)} {st : List Value} {pc : Nat} (hS : G.1 = sM) {idx : Nat} (hl : Cond.fieldLink own idx "OldBeamsModel" "propPush" "[I" ∈ tb) (d : decode cc pc = .ok (.getfield idx, 3)) (kk : VJ G M (pc + 3) lo (.ref (zad G (18)) :: st)) : VJ G M pc lo (.ref (zad G 0) :: st) := z_get C (k := 0) (ci := 5) (slot := 20) (fd := (6, 18)) (T := TX_M) (by rw [hS]; decide) (by rw [hS]; exact rfl) (by rw [hS]; exact rfl) rfl lay_M (by decide) hl d kk
theorem gM_M_isSet {G : zG} {cc : ByteArray} {own : String} {ret : Option FieldType} {nL fr lc : Nat} (C : zC G cc own ret nL fr lc) {M : zM} {lo : List (Option Value)} {st : List Value} {pc : Nat} (hS : G.1 = sM) {idx : Nat} (hl : Cond.fieldLink own idx "OldBeamsModel" "isSet" "[Z" ∈ tb) (d : decode cc pc = .ok (.getfield idx, 3)) (kk : VJ G M (pc + 3) lo (.ref (zad G (19)) :: st)) : VJ G M pc lo (.ref (zad G 0) :: st) := z_get C (k := 0) (ci := 5) (slot := 21) (fd := (6, 19)) (T := TX_M) (by rw [hS]; decide) (by rw [hS]; exact rfl) (by rw [hS]; exact rfl) rfl lay_M (by decide) hl d kk
theorem gM_M_tryFallen {G : zG} {cc : ByteArray} {own : String} {ret : Option FieldType} {nL fr lc : Nat} (C : zC G cc own ret nL fr lc) {M : zM} {lo : List (Option Value)} {st : List Value} {pc : Nat} (hS : G.1 = sM) {idx : Nat} (hl : Cond.fieldLink own idx "OldBeamsModel" "tryFallen" "[Z" ∈ tb) (d : decode cc pc = .ok (.getfield idx, 3)) (kk : VJ G M (pc + 3) lo (.ref (zad G (20)) :: st)) : VJ G M pc lo (.ref (zad G 0) :: st) := z_get C (k := 0) (ci := 5) (slot := 22) (fd := (6, 20)) (T := TX_M) (by rw [hS]; decide) (by rw [hS]; exact rfl) (by rw [hS]; exact rfl) rfl lay_M (by decide) hl d kk
theorem gM_M_trySet {G : zG} {cc : ByteArray} {own : String} {ret : Option FieldType} {nL fr lc : Nat} (C : zC G cc own ret nL fr lc) {M : zM} {lo : List (Option Value)} {st : List Value} {pc : Nat} (hS : G.1 = sM) {idx : Nat} (hl : Cond.fieldLink own idx "OldBeamsModel" "trySet" "[Z" ∈ tb) (d : decode cc pc = .ok (.getfield idx, 3)) (kk : VJ G M (pc + 3) lo (.ref (zad G (21)) :: st)) : VJ G M pc lo (.ref (zad G 0) :: st) := z_get C (k := 0) (ci := 5) (slot := 23) (fd := (6, 21)) (T := TX_M) (by rw [hS]; decide) (by rw [hS]; exact rfl) (by rw [hS]; exact rfl) rfl lay_M (by decide) hl d kk
theorem gM_M_isDown {G : zG} {cc : ByteArray} {own : String} {ret : Option FieldType} {nL fr lc : Nat} (C : zC G cc own ret nL fr lc) {M : zM} {lo : List (Option Value)} {st : List Value} {pc : Nat} (hS : G.1 = sM) {idx : Nat} (hl : Cond.fieldLink own idx "OldBeamsModel" "isDown" "[Z" ∈ tb) (d : decode cc pc = .ok (.getfield idx, 3)) (kk : VJ G M (pc + 3) lo (.ref (zad G (22)) :: st)) : VJ G M pc lo (.ref (zad G 0) :: st) := z_get C (k := 0) (ci := 5) (slot := 24) (fd := (6, 22)) (T := TX_M) (by rw [hS]; decide) (by rw [hS]; exact rfl) (by rw [hS]; exact rfl) rfl lay_M (by decide) hl d kk
theorem gM_M_forces {G : zG} {cc : ByteArray} {own : String} {ret : Option FieldType} {nL fr lc : Nat} (C : zC G cc own ret nL fr lc) {M : zM} {lo : List (Option Value)} {st : List Value} {pc : Nat} (hS : G.1 = sM) {idx : Nat} (hl : Cond.fieldLink own idx "OldBeamsModel" "forces" "[J" ∈ tb) (d : decode cc pc = .ok (.getfield idx, 3)) (kk : VJ G M (pc + 3) lo (.ref (zad G (23)) :: st)) : VJ G M pc lo (.ref (zad G 0) :: st) := z_get C (k := 0) (ci := 5) (slot := 25) (fd := (6, 23)) (T := TX_M) (by rw [hS]; decide) (by rw [hS]; exact rfl) (by rw [hS]; exact rfl) rfl lay_M (by decide) hl d kk
theorem gM_M_push {G : zG} {cc : ByteArray} {own : String} {ret : Option FieldType} {nL fr lc : Nat} (C : zC G cc own ret nL fr lc) {M : zM} {lo : List (Option Value)} {st : List Value} {pc : Nat} (hS : G.1 = sM) {idx : Nat} (hl : Cond.fieldLink own idx "OldBeamsModel" "push" "[J" ∈ tb) (d : decode cc pc = .ok (.getfield idx, 3)) (kk : VJ G M (pc + 3) lo (.ref (zad G (24)) :: st)) : VJ G M pc lo (.ref (zad G 0) :: st) := z_get C (k := 0) (ci := 5) (slot := 26) (fd := (6, 24)) (T := TX_M) (by rw [hS]; decide) (by rw [hS]; exact rfl) (by rw [hS]; exact rfl) rfl lay_M (by decide) hl d kk
theorem gM_M_great {G : zG} {cc : ByteArray} {own : String} {ret : Option FieldType} {nL fr lc : Nat} (C : zC G cc own ret nL fr lc) {M : zM} {lo : List (Option Value)} {st : List Value} {pc : Nat} (hS : G.1 = sM) {idx : Nat} (hl : Cond.fieldLink own idx "OldBeamsModel" "great" "[J" ∈ tb) (d : decode cc pc = .ok (.getfield idx, 3)) (kk : VJ G M (pc + 3) lo (.ref (zad G (25)) :: st)) : VJ G M pc lo (.ref (zad G 0) :: st) := z_get C (k := 0) (ci := 5) (slot := 27) (fd := (6, 25)) (T := TX_M) (by rw [hS]; decide) (by rw [hS]; exact rfl) (by rw [hS]; exact rfl) rfl lay_M (by decide) hl d kk
theorem gM_M_greatPlace {G : zG} {cc : ByteArray} {own : String} {ret : Option FieldType} {nL fr lc : Nat} (C : zC G cc own ret nL fr lc) {M : zM} {lo : List (Option Value)} {st : List Value} {pc : Nat} (hS : G.1 = sM) {idx : Nat} (hl : Cond.fieldLink own idx "OldBeamsModel" "greatPlace" "[I" ∈ tb) (d : decode cc pc = .ok (.getfield idx, 3)) (kk : VJ G M (pc + 3) lo (.ref (zad G (26)) :: st)) : VJ G M pc lo (.ref (zad G 0) :: st) := z_get C (k := 0) (ci := 5) (slot := 28) (fd := (6, 26)) (T := TX_M) (by rw [hS]; decide) (by rw [hS]; exact rfl) (by rw [hS]; exact rfl) rfl lay_M (by decide) hl d kk
theorem gM_M_weight {G : zG} {cc : ByteArray} {own : String} {ret : Option FieldType} {nL fr lc : Nat} (C : zC G cc own ret nL fr lc) {M : zM} {lo : List (Option Value)} {st : List Value} {pc : Nat} (hS : G.1 = sM) {idx : Nat} (hl : Cond.fieldLink own idx "OldBeamsModel" "weight" "[I" ∈ tb) (d : decode cc pc = .ok (.getfield idx, 3)) (kk : VJ G M (pc + 3) lo (.ref (zad G (27)) :: st)) : VJ G M pc lo (.ref (zad G 0) :: st) := z_get C (k := 0) (ci := 5) (slot := 29) (fd := (6, 27)) (T := TX_M) (by rw [hS]; decide) (by rw [hS]; exact rfl) (by rw [hS]; exact rfl) rfl lay_M (by decide) hl d kk
theorem gM_M_often {G : zG} {cc : ByteArray} {own : String} {ret : Option FieldType} {nL fr lc : Nat} (C : zC G cc own ret nL fr lc) {M : zM} {lo : List (Option Value)} {st : List Value} {pc : Nat} (hS : G.1 = sM) {idx : Nat} (hl : Cond.fieldLink own idx "OldBeamsModel" "often" "[I" ∈ tb) (d : decode cc pc = .ok (.getfield idx, 3)) (kk : VJ G M (pc + 3) lo (.ref (zad G (28)) :: st)) : VJ G M pc lo (.ref (zad G 0) :: st) := z_get C (k := 0) (ci := 5) (slot := 30) (fd := (6, 28)) (T := TX_M) (by rw [hS]; decide) (by rw [hS]; exact rfl) (by rw [hS]; exact rfl) rfl lay_M (by decide) hl d kk
theorem gM_M_looks {G : zG} {cc : ByteArray} {own : String} {ret : Option FieldType} {nL fr lc : Nat} (C : zC G cc own ret nL fr lc) {M : zM} {lo : List (Option Value)} {st : List Value} {pc : Nat} (hS : G.1 = sM) {idx : Nat} (hl : Cond.fieldLink own idx "OldBeamsModel" "looks" "I" ∈ tb) (d : decode cc pc = .ok (.getfield idx, 3)) (kk : VJ G M (pc + 3) lo (.int (iI (M.1 0 31)) :: st)) : VJ G M pc lo (.ref (zad G 0) :: st) := z_get C (k := 0) (ci := 5) (slot := 31) (fd := (0, 0)) (T := TX_M) (by rw [hS]; decide) (by rw [hS]; exact rfl) (by rw [hS]; exact rfl) rfl lay_M (by decide) hl d kk
theorem pM_M_looks {G : zG} {cc : ByteArray} {own : String} {ret : Option FieldType} {nL fr lc : Nat} (C : zC G cc own ret nL fr lc) {M : zM} {lo : List (Option Value)} {st : List Value} {pc : Nat} (hS : G.1 = sM) {idx : Nat} {z : Int} (hl : Cond.fieldLink own idx "OldBeamsModel" "looks" "I" ∈ tb) (d : decode cc pc = .ok (.putfield idx, 3)) (kk : VJ G (zI M 0 31 z) (pc + 3) lo st) : VJ G M pc lo (.int (iI z) :: .ref (zad G 0) :: st) := z_putI C (k := 0) (ci := 5) (slot := 31) (x := 0) (T := TX_M) (ty0 := ty_M) (ty := .int) (by rw [hS]; decide) (by rw [hS]; exact rfl) (by rw [hS]; exact rfl) rfl lay_M tyok_M nm_M (by decide) rfl (by decide +kernel) rfl rfl hl d kk
theorem gM_M_lookBeam {G : zG} {cc : ByteArray} {own : String} {ret : Option FieldType} {nL fr lc : Nat} (C : zC G cc own ret nL fr lc) {M : zM} {lo : List (Option Value)} {st : List Value} {pc : Nat} (hS : G.1 = sM) {idx : Nat} (hl : Cond.fieldLink own idx "OldBeamsModel" "lookBeam" "[I" ∈ tb) (d : decode cc pc = .ok (.getfield idx, 3)) (kk : VJ G M (pc + 3) lo (.ref (zad G (29)) :: st)) : VJ G M pc lo (.ref (zad G 0) :: st) := z_get C (k := 0) (ci := 5) (slot := 32) (fd := (6, 29)) (T := TX_M) (by rw [hS]; decide) (by rw [hS]; exact rfl) (by rw [hS]; exact rfl) rfl lay_M (by decide) hl d kk
theorem gM_M_lookTool {G : zG} {cc : ByteArray} {own : String} {ret : Option FieldType} {nL fr lc : Nat} (C : zC G cc own ret nL fr lc) {M : zM} {lo : List (Option Value)} {st : List Value} {pc : Nat} (hS : G.1 = sM) {idx : Nat} (hl : Cond.fieldLink own idx "OldBeamsModel" "lookTool" "[I" ∈ tb) (d : decode cc pc = .ok (.getfield idx, 3)) (kk : VJ G M (pc + 3) lo (.ref (zad G (30)) :: st)) : VJ G M pc lo (.ref (zad G 0) :: st) := z_get C (k := 0) (ci := 5) (slot := 33) (fd := (6, 30)) (T := TX_M) (by rw [hS]; decide) (by rw [hS]; exact rfl) (by rw [hS]; exact rfl) rfl lay_M (by decide) hl d kk
theorem gM_M_lookOutcome {G : zG} {cc : ByteArray} {own : String} {ret : Option FieldType} {nL fr lc : Nat} (C : zC G cc own ret nL fr lc) {M : zM} {lo : List (Option Value)} {st : List Value} {pc : Nat} (hS : G.1 = sM) {idx : Nat} (hl : Cond.fieldLink own idx "OldBeamsModel" "lookOutcome" "[I" ∈ tb) (d : decode cc pc = .ok (.getfield idx, 3)) (kk : VJ G M (pc + 3) lo (.ref (zad G (31)) :: st)) : VJ G M pc lo (.ref (zad G 0) :: st) := z_get C (k := 0) (ci := 5) (slot := 34) (fd := (6, 31)) (T := TX_M) (by rw [hS]; decide) (by rw [hS]; exact rfl) (by rw [hS]; exact rfl) rfl lay_M (by decide) hl d kk
theorem gM_M_lookYear {G : zG} {cc : ByteArray} {own : String} {ret : Option FieldType} {nL fr lc : Nat} (C : zC G cc own ret nL fr lc) {M : zM} {lo : List (Option Value)} {st : List Value} {pc : Nat} (hS : G.1 = sM) {idx : Nat} (hl : Cond.fieldLink own idx "OldBeamsModel" "lookYear" "[I" ∈ tb) (d : decode cc pc = .ok (.getfield idx, 3)) (kk : VJ G M (pc + 3) lo (.ref (zad G (32)) :: st)) : VJ G M pc lo (.ref (zad G 0) :: st) := z_get C (k := 0) (ci := 5) (slot := 35) (fd := (6, 32)) (T := TX_M) (by rw [hS]; decide) (by rw [hS]; exact rfl) (by rw [hS]; exact rfl) rfl lay_M (by decide) hl d kk
theorem gM_M_odds {G : zG} {cc : ByteArray} {own : String} {ret : Option FieldType} {nL fr lc : Nat} (C : zC G cc own ret nL fr lc) {M : zM} {lo : List (Option Value)} {st : List Value} {pc : Nat} (hS : G.1 = sM) {idx : Nat} (hl : Cond.fieldLink own idx "OldBeamsModel" "odds" "[J" ∈ tb) (d : decode cc pc = .ok (.getfield idx, 3)) (kk : VJ G M (pc + 3) lo (.ref (zad G (33)) :: st)) : VJ G M pc lo (.ref (zad G 0) :: st) := z_get C (k := 0) (ci := 5) (slot := 36) (fd := (6, 33)) (T := TX_M) (by rw [hS]; decide) (by rw [hS]; exact rfl) (by rw [hS]; exact rfl) rfl lay_M (by decide) hl d kk
theorem gM_M_next {G : zG} {cc : ByteArray} {own : String} {ret : Option FieldType} {nL fr lc : Nat} (C : zC G cc own ret nL fr lc) {M : zM} {lo : List (Option Value)} {st : List Value} {pc : Nat} (hS : G.1 = sM) {idx : Nat} (hl : Cond.fieldLink own idx "OldBeamsModel" "next" "[J" ∈ tb) (d : decode cc pc = .ok (.getfield idx, 3)) (kk : VJ G M (pc + 3) lo (.ref (zad G (34)) :: st)) : VJ G M pc lo (.ref (zad G 0) :: st) := z_get C (k := 0) (ci := 5) (slot := 37) (fd := (6, 34)) (T := TX_M) (by rw [hS]; decide) (by rw [hS]; exact rfl) (by rw [hS]; exact rfl) rfl lay_M (by decide) hl d kk
theorem gM_M_firstQuarrel {G : zG} {cc : ByteArray} {own : String} {ret : Option FieldType} {nL fr lc : Nat} (C : zC G cc own ret nL fr lc) {M : zM} {lo : List (Option Value)} {st : List Value} {pc : Nat} (hS : G.1 = sM) {idx : Nat} (hl : Cond.fieldLink own idx "OldBeamsModel" "firstQuarrel" "I" ∈ tb) (d : decode cc pc = .ok (.getfield idx, 3)) (kk : VJ G M (pc + 3) lo (.int (iI (M.1 0 38)) :: st)) : VJ G M pc lo (.ref (zad G 0) :: st) := z_get C (k := 0) (ci := 5) (slot := 38) (fd := (0, 0)) (T := TX_M) (by rw [hS]; decide) (by rw [hS]; exact rfl) (by rw [hS]; exact rfl) rfl lay_M (by decide) hl d kk
theorem pM_M_firstQuarrel {G : zG} {cc : ByteArray} {own : String} {ret : Option FieldType} {nL fr lc : Nat} (C : zC G cc own ret nL fr lc) {M : zM} {lo : List (Option Value)} {st : List Value} {pc : Nat} (hS : G.1 = sM) {idx : Nat} {z : Int} (hl : Cond.fieldLink own idx "OldBeamsModel" "firstQuarrel" "I" ∈ tb) (d : decode cc pc = .ok (.putfield idx, 3)) (kk : VJ G (zI M 0 38 z) (pc + 3) lo st) : VJ G M pc lo (.int (iI z) :: .ref (zad G 0) :: st) := z_putI C (k := 0) (ci := 5) (slot := 38) (x := 0) (T := TX_M) (ty0 := ty_M) (ty := .int) (by rw [hS]; decide) (by rw [hS]; exact rfl) (by rw [hS]; exact rfl) rfl lay_M tyok_M nm_M (by decide) rfl (by decide +kernel) rfl rfl hl d kk
theorem gM_M_holdSum {G : zG} {cc : ByteArray} {own : String} {ret : Option FieldType} {nL fr lc : Nat} (C : zC G cc own ret nL fr lc) {M : zM} {lo : List (Option Value)} {st : List Value} {pc : Nat} (hS : G.1 = sM) {idx : Nat} (hl : Cond.fieldLink own idx "OldBeamsModel" "holdSum" "J" ∈ tb) (d : decode cc pc = .ok (.getfield idx, 3)) (kk : VJ G M (pc + 3) lo (.long (M.2 0 39) :: st)) : VJ G M pc lo (.ref (zad G 0) :: st) := z_get C (k := 0) (ci := 5) (slot := 39) (fd := (2, 0)) (T := TX_M) (by rw [hS]; decide) (by rw [hS]; exact rfl) (by rw [hS]; exact rfl) rfl lay_M (by decide) hl d kk
theorem pM_M_holdSum {G : zG} {cc : ByteArray} {own : String} {ret : Option FieldType} {nL fr lc : Nat} (C : zC G cc own ret nL fr lc) {M : zM} {lo : List (Option Value)} {st : List Value} {pc : Nat} (hS : G.1 = sM) {idx : Nat} {z : Int64} (hl : Cond.fieldLink own idx "OldBeamsModel" "holdSum" "J" ∈ tb) (d : decode cc pc = .ok (.putfield idx, 3)) (kk : VJ G (zJ M 0 39 z) (pc + 3) lo st) : VJ G M pc lo (.long z :: .ref (zad G 0) :: st) := z_putJ C (k := 0) (ci := 5) (slot := 39) (x := 0) (T := TX_M) (ty0 := ty_M) (by rw [hS]; decide) (by rw [hS]; exact rfl) (by rw [hS]; exact rfl) rfl lay_M tyok_M nm_M (by decide) rfl (by decide +kernel) hl d kk
theorem gM_M_allSum {G : zG} {cc : ByteArray} {own : String} {ret : Option FieldType} {nL fr lc : Nat} (C : zC G cc own ret nL fr lc) {M : zM} {lo : List (Option Value)} {st : List Value} {pc : Nat} (hS : G.1 = sM) {idx : Nat} (hl : Cond.fieldLink own idx "OldBeamsModel" "allSum" "J" ∈ tb) (d : decode cc pc = .ok (.getfield idx, 3)) (kk : VJ G M (pc + 3) lo (.long (M.2 0 40) :: st)) : VJ G M pc lo (.ref (zad G 0) :: st) := z_get C (k := 0) (ci := 5) (slot := 40) (fd := (2, 0)) (T := TX_M) (by rw [hS]; decide) (by rw [hS]; exact rfl) (by rw [hS]; exact rfl) rfl lay_M (by decide) hl d kk
theorem pM_M_allSum {G : zG} {cc : ByteArray} {own : String} {ret : Option FieldType} {nL fr lc : Nat} (C : zC G cc own ret nL fr lc) {M : zM} {lo : List (Option Value)} {st : List Value} {pc : Nat} (hS : G.1 = sM) {idx : Nat} {z : Int64} (hl : Cond.fieldLink own idx "OldBeamsModel" "allSum" "J" ∈ tb) (d : decode cc pc = .ok (.putfield idx, 3)) (kk : VJ G (zJ M 0 40 z) (pc + 3) lo st) : VJ G M pc lo (.long z :: .ref (zad G 0) :: st) := z_putJ C (k := 0) (ci := 5) (slot := 40) (x := 0) (T := TX_M) (ty0 := ty_M) (by rw [hS]; decide) (by rw [hS]; exact rfl) (by rw [hS]; exact rfl) rfl lay_M tyok_M nm_M (by decide) rfl (by decide +kernel) hl d kk
theorem gM_M_fallen {G : zG} {cc : ByteArray} {own : String} {ret : Option FieldType} {nL fr lc : Nat} (C : zC G cc own ret nL fr lc) {M : zM} {lo : List (Option Value)} {st : List Value} {pc : Nat} (hS : G.1 = sM) {idx : Nat} (hl : Cond.fieldLink own idx "OldBeamsModel" "fallen" "[I" ∈ tb) (d : decode cc pc = .ok (.getfield idx, 3)) (kk : VJ G M (pc + 3) lo (.ref (zad G (35)) :: st)) : VJ G M pc lo (.ref (zad G 0) :: st) := z_get C (k := 0) (ci := 5) (slot := 41) (fd := (6, 35)) (T := TX_M) (by rw [hS]; decide) (by rw [hS]; exact rfl) (by rw [hS]; exact rfl) rfl lay_M (by decide) hl d kk
theorem gM_M_fallMany {G : zG} {cc : ByteArray} {own : String} {ret : Option FieldType} {nL fr lc : Nat} (C : zC G cc own ret nL fr lc) {M : zM} {lo : List (Option Value)} {st : List Value} {pc : Nat} (hS : G.1 = sM) {idx : Nat} (hl : Cond.fieldLink own idx "OldBeamsModel" "fallMany" "I" ∈ tb) (d : decode cc pc = .ok (.getfield idx, 3)) (kk : VJ G M (pc + 3) lo (.int (iI (M.1 0 42)) :: st)) : VJ G M pc lo (.ref (zad G 0) :: st) := z_get C (k := 0) (ci := 5) (slot := 42) (fd := (0, 0)) (T := TX_M) (by rw [hS]; decide) (by rw [hS]; exact rfl) (by rw [hS]; exact rfl) rfl lay_M (by decide) hl d kk
theorem pM_M_fallMany {G : zG} {cc : ByteArray} {own : String} {ret : Option FieldType} {nL fr lc : Nat} (C : zC G cc own ret nL fr lc) {M : zM} {lo : List (Option Value)} {st : List Value} {pc : Nat} (hS : G.1 = sM) {idx : Nat} {z : Int} (hl : Cond.fieldLink own idx "OldBeamsModel" "fallMany" "I" ∈ tb) (d : decode cc pc = .ok (.putfield idx, 3)) (kk : VJ G (zI M 0 42 z) (pc + 3) lo st) : VJ G M pc lo (.int (iI z) :: .ref (zad G 0) :: st) := z_putI C (k := 0) (ci := 5) (slot := 42) (x := 0) (T := TX_M) (ty0 := ty_M) (ty := .int) (by rw [hS]; decide) (by rw [hS]; exact rfl) (by rw [hS]; exact rfl) rfl lay_M tyok_M nm_M (by decide) rfl (by decide +kernel) rfl rfl hl d kk
theorem gM_M_mend {G : zG} {cc : ByteArray} {own : String} {ret : Option FieldType} {nL fr lc : Nat} (C : zC G cc own ret nL fr lc) {M : zM} {lo : List (Option Value)} {st : List Value} {pc : Nat} (hS : G.1 = sM) {idx : Nat} (hl : Cond.fieldLink own idx "OldBeamsModel" "mend" "I" ∈ tb) (d : decode cc pc = .ok (.getfield idx, 3)) (kk : VJ G M (pc + 3) lo (.int (iI (M.1 0 43)) :: st)) : VJ G M pc lo (.ref (zad G 0) :: st) := z_get C (k := 0) (ci := 5) (slot := 43) (fd := (0, 0)) (T := TX_M) (by rw [hS]; decide) (by rw [hS]; exact rfl) (by rw [hS]; exact rfl) rfl lay_M (by decide) hl d kk
theorem pM_M_mend {G : zG} {cc : ByteArray} {own : String} {ret : Option FieldType} {nL fr lc : Nat} (C : zC G cc own ret nL fr lc) {M : zM} {lo : List (Option Value)} {st : List Value} {pc : Nat} (hS : G.1 = sM) {idx : Nat} {z : Int} (hl : Cond.fieldLink own idx "OldBeamsModel" "mend" "I" ∈ tb) (d : decode cc pc = .ok (.putfield idx, 3)) (kk : VJ G (zI M 0 43 z) (pc + 3) lo st) : VJ G M pc lo (.int (iI z) :: .ref (zad G 0) :: st) := z_putI C (k := 0) (ci := 5) (slot := 43) (x := 0) (T := TX_M) (ty0 := ty_M) (ty := .int) (by rw [hS]; decide) (by rw [hS]; exact rfl) (by rw [hS]; exact rfl) rfl lay_M tyok_M nm_M (by decide) rfl (by decide +kernel) rfl rfl hl d kk
theorem gM_M_loss {G : zG} {cc : ByteArray} {own : String} {ret : Option FieldType} {nL fr lc : Nat} (C : zC G cc own ret nL fr lc) {M : zM} {lo : List (Option Value)} {st : List Value} {pc : Nat} (hS : G.1 = sM) {idx : Nat} (hl : Cond.fieldLink own idx "OldBeamsModel" "loss" "I" ∈ tb) (d : decode cc pc = .ok (.getfield idx, 3)) (kk : VJ G M (pc + 3) lo (.int (iI (M.1 0 44)) :: st)) : VJ G M pc lo (.ref (zad G 0) :: st) := z_get C (k := 0) (ci := 5) (slot := 44) (fd := (0, 0)) (T := TX_M) (by rw [hS]; decide) (by rw [hS]; exact rfl) (by rw [hS]; exact rfl) rfl lay_M (by decide) hl d kk
theorem pM_M_loss {G : zG} {cc : ByteArray} {own : String} {ret : Option FieldType} {nL fr lc : Nat} (C : zC G cc own ret nL fr lc) {M : zM} {lo : List (Option Value)} {st : List Value} {pc : Nat} (hS : G.1 = sM) {idx : Nat} {z : Int} (hl : Cond.fieldLink own idx "OldBeamsModel" "loss" "I" ∈ tb) (d : decode cc pc = .ok (.putfield idx, 3)) (kk : VJ G (zI M 0 44 z) (pc + 3) lo st) : VJ G M pc lo (.int (iI z) :: .ref (zad G 0) :: st) := z_putI C (k := 0) (ci := 5) (slot := 44) (x := 0) (T := TX_M) (ty0 := ty_M) (ty := .int) (by rw [hS]; decide) (by rw [hS]; exact rfl) (by rw [hS]; exact rfl) rfl lay_M tyok_M nm_M (by decide) rfl (by decide +kernel) rfl rfl hl d kk
end
