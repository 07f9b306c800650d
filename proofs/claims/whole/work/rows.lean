section
-- ===== PART A: goes FIRST, ahead of the names: the tables' words, and 'selects' of the private methods out of them =====
/-- a private method of a class that the tables say can be made, by its rows of tables_1 -/
def lw_okq (q : MethodName × Nat) : Prop := (q.1.cls ≠ "java/lang/invoke/MethodHandle" ∧ q.1.cls ≠ "java/lang/invoke/VarHandle") ∧ Cond.instantiable q.1.cls q.2 ∈ tables_1 ∧ Cond.privateMethod q.1 ∈ tables_1 ∧ Cond.instanceMethod q.1 ∈ tables_1
theorem lw_p0 : lw_okq (⟨"OldBeams", "refusal", "(IZ)I"⟩, 7) := ⟨⟨by decide +kernel, by decide +kernel⟩, List.mem_of_getElem? (i := 11) (by decide +kernel), List.mem_of_getElem? (i := 337) (by decide +kernel), List.mem_of_getElem? (i := 338) (by decide +kernel)⟩
theorem lw_p1 : lw_okq (⟨"OldBeams$Frame", "reckonAll", "(II)V"⟩, 15) := ⟨⟨by decide +kernel, by decide +kernel⟩, List.mem_of_getElem? (i := 19) (by decide +kernel), List.mem_of_getElem? (i := 345) (by decide +kernel), List.mem_of_getElem? (i := 346) (by decide +kernel)⟩
theorem lw_p2 : lw_okq (⟨"OldBeams$Frame", "spreadForces", "(I)V"⟩, 15) := ⟨⟨by decide +kernel, by decide +kernel⟩, List.mem_of_getElem? (i := 19) (by decide +kernel), List.mem_of_getElem? (i := 349) (by decide +kernel), List.mem_of_getElem? (i := 350) (by decide +kernel)⟩
theorem lw_p3 : lw_okq (⟨"OldBeams$Frame", "reckonBeam", "(LOldBeams$Beam;)V"⟩, 15) := ⟨⟨by decide +kernel, by decide +kernel⟩, List.mem_of_getElem? (i := 19) (by decide +kernel), List.mem_of_getElem? (i := 363) (by decide +kernel), List.mem_of_getElem? (i := 364) (by decide +kernel)⟩
theorem lw_p4 : lw_okq (⟨"OldBeams$Looks", "applyLook", "(II)Z"⟩, 9) := ⟨⟨by decide +kernel, by decide +kernel⟩, List.mem_of_getElem? (i := 150) (by decide +kernel), List.mem_of_getElem? (i := 461) (by decide +kernel), List.mem_of_getElem? (i := 462) (by decide +kernel)⟩
theorem lw_p5 : lw_okq (⟨"OldBeams", "takeShares", "(IZ)V"⟩, 7) := ⟨⟨by decide +kernel, by decide +kernel⟩, List.mem_of_getElem? (i := 11) (by decide +kernel), List.mem_of_getElem? (i := 495) (by decide +kernel), List.mem_of_getElem? (i := 496) (by decide +kernel)⟩
theorem lw_p6 : lw_okq (⟨"OldBeams", "standsAfter", "(I)Z"⟩, 7) := ⟨⟨by decide +kernel, by decide +kernel⟩, List.mem_of_getElem? (i := 11) (by decide +kernel), List.mem_of_getElem? (i := 499) (by decide +kernel), List.mem_of_getElem? (i := 500) (by decide +kernel)⟩
theorem lw_p7 : lw_okq (⟨"OldBeams", "putChance", "(I)V"⟩, 7) := ⟨⟨by decide +kernel, by decide +kernel⟩, List.mem_of_getElem? (i := 11) (by decide +kernel), List.mem_of_getElem? (i := 511) (by decide +kernel), List.mem_of_getElem? (i := 512) (by decide +kernel)⟩
theorem lw_p8 : lw_okq (⟨"OldBeams", "lostOdds", "(I)J"⟩, 7) := ⟨⟨by decide +kernel, by decide +kernel⟩, List.mem_of_getElem? (i := 11) (by decide +kernel), List.mem_of_getElem? (i := 519) (by decide +kernel), List.mem_of_getElem? (i := 520) (by decide +kernel)⟩
theorem lw_p9 : lw_okq (⟨"OldBeams$Frame", "firstNotHolding", "(I[I)I"⟩, 15) := ⟨⟨by decide +kernel, by decide +kernel⟩, List.mem_of_getElem? (i := 19) (by decide +kernel), List.mem_of_getElem? (i := 552) (by decide +kernel), List.mem_of_getElem? (i := 553) (by decide +kernel)⟩
theorem lw_p10 : lw_okq (⟨"OldBeams$Frame", "standsWith", "(I[I)Z"⟩, 15) := ⟨⟨by decide +kernel, by decide +kernel⟩, List.mem_of_getElem? (i := 19) (by decide +kernel), List.mem_of_getElem? (i := 583) (by decide +kernel), List.mem_of_getElem? (i := 584) (by decide +kernel)⟩
theorem lw_p11 : lw_okq (⟨"OldBeams", "putMean", "(I)V"⟩, 7) := ⟨⟨by decide +kernel, by decide +kernel⟩, List.mem_of_getElem? (i := 11) (by decide +kernel), List.mem_of_getElem? (i := 599) (by decide +kernel), List.mem_of_getElem? (i := 600) (by decide +kernel)⟩
theorem lw_p12 : lw_okq (⟨"OldBeams", "cost", "(JJ)J"⟩, 7) := ⟨⟨by decide +kernel, by decide +kernel⟩, List.mem_of_getElem? (i := 11) (by decide +kernel), List.mem_of_getElem? (i := 603) (by decide +kernel), List.mem_of_getElem? (i := 604) (by decide +kernel)⟩
theorem lw_p13 : lw_okq (⟨"OldBeams", "putWorth", "(II)V"⟩, 7) := ⟨⟨by decide +kernel, by decide +kernel⟩, List.mem_of_getElem? (i := 11) (by decide +kernel), List.mem_of_getElem? (i := 614) (by decide +kernel), List.mem_of_getElem? (i := 615) (by decide +kernel)⟩
theorem lw_p14 : lw_okq (⟨"OldBeamsModel", "isBeam", "(I)Z"⟩, 45) := ⟨⟨by decide +kernel, by decide +kernel⟩, List.mem_of_getElem? (i := 631) (by decide +kernel), List.mem_of_getElem? (i := 802) (by decide +kernel), List.mem_of_getElem? (i := 803) (by decide +kernel)⟩
theorem lw_p15 : lw_okq (⟨"OldBeamsModel", "layNow", "()V"⟩, 45) := ⟨⟨by decide +kernel, by decide +kernel⟩, List.mem_of_getElem? (i := 631) (by decide +kernel), List.mem_of_getElem? (i := 811) (by decide +kernel), List.mem_of_getElem? (i := 812) (by decide +kernel)⟩
def lw_privs_1 : List (MethodName × Nat) := [(⟨"OldBeams", "refusal", "(IZ)I"⟩, 7), (⟨"OldBeams$Frame", "reckonAll", "(II)V"⟩, 15), (⟨"OldBeams$Frame", "spreadForces", "(I)V"⟩, 15), (⟨"OldBeams$Frame", "reckonBeam", "(LOldBeams$Beam;)V"⟩, 15), (⟨"OldBeams$Looks", "applyLook", "(II)Z"⟩, 9), (⟨"OldBeams", "takeShares", "(IZ)V"⟩, 7), (⟨"OldBeams", "standsAfter", "(I)Z"⟩, 7), (⟨"OldBeams", "putChance", "(I)V"⟩, 7), (⟨"OldBeams", "lostOdds", "(I)J"⟩, 7), (⟨"OldBeams$Frame", "firstNotHolding", "(I[I)I"⟩, 15), (⟨"OldBeams$Frame", "standsWith", "(I[I)Z"⟩, 15), (⟨"OldBeams", "putMean", "(I)V"⟩, 7), (⟨"OldBeams", "cost", "(JJ)J"⟩, 7), (⟨"OldBeams", "putWorth", "(II)V"⟩, 7), (⟨"OldBeamsModel", "isBeam", "(I)Z"⟩, 45), (⟨"OldBeamsModel", "layNow", "()V"⟩, 45)]
theorem lw_r1 : ∀ q ∈ lw_privs_1, lw_okq q := List.forall_mem_cons.mpr ⟨lw_p0, List.forall_mem_cons.mpr ⟨lw_p1, List.forall_mem_cons.mpr ⟨lw_p2, List.forall_mem_cons.mpr ⟨lw_p3, List.forall_mem_cons.mpr ⟨lw_p4, List.forall_mem_cons.mpr ⟨lw_p5, List.forall_mem_cons.mpr ⟨lw_p6, List.forall_mem_cons.mpr ⟨lw_p7, List.forall_mem_cons.mpr ⟨lw_p8, List.forall_mem_cons.mpr ⟨lw_p9, List.forall_mem_cons.mpr ⟨lw_p10, List.forall_mem_cons.mpr ⟨lw_p11, List.forall_mem_cons.mpr ⟨lw_p12, List.forall_mem_cons.mpr ⟨lw_p13, List.forall_mem_cons.mpr ⟨lw_p14, List.forall_mem_cons.mpr ⟨lw_p15, fun _ h => absurd h List.not_mem_nil⟩⟩⟩⟩⟩⟩⟩⟩⟩⟩⟩⟩⟩⟩⟩⟩
theorem lw_p16 : lw_okq (⟨"OldBeamsModel", "tryNow", "()V"⟩, 45) := ⟨⟨by decide +kernel, by decide +kernel⟩, List.mem_of_getElem? (i := 631) (by decide +kernel), List.mem_of_getElem? (i := 815) (by decide +kernel), List.mem_of_getElem? (i := 816) (by decide +kernel)⟩
theorem lw_p17 : lw_okq (⟨"OldBeamsModel", "layTried", "()V"⟩, 45) := ⟨⟨by decide +kernel, by decide +kernel⟩, List.mem_of_getElem? (i := 631) (by decide +kernel), List.mem_of_getElem? (i := 819) (by decide +kernel), List.mem_of_getElem? (i := 820) (by decide +kernel)⟩
theorem lw_p18 : lw_okq (⟨"OldBeamsModel", "layDown", "()V"⟩, 45) := ⟨⟨by decide +kernel, by decide +kernel⟩, List.mem_of_getElem? (i := 631) (by decide +kernel), List.mem_of_getElem? (i := 823) (by decide +kernel), List.mem_of_getElem? (i := 824) (by decide +kernel)⟩
theorem lw_p19 : lw_okq (⟨"OldBeamsModel", "layPush", "(I)V"⟩, 45) := ⟨⟨by decide +kernel, by decide +kernel⟩, List.mem_of_getElem? (i := 631) (by decide +kernel), List.mem_of_getElem? (i := 827) (by decide +kernel), List.mem_of_getElem? (i := 828) (by decide +kernel)⟩
theorem lw_p20 : lw_okq (⟨"OldBeamsModel", "layGreat", "(I)V"⟩, 45) := ⟨⟨by decide +kernel, by decide +kernel⟩, List.mem_of_getElem? (i := 631) (by decide +kernel), List.mem_of_getElem? (i := 834) (by decide +kernel), List.mem_of_getElem? (i := 835) (by decide +kernel)⟩
theorem lw_p21 : lw_okq (⟨"OldBeamsModel", "bendingOf", "(II)J"⟩, 45) := ⟨⟨by decide +kernel, by decide +kernel⟩, List.mem_of_getElem? (i := 631) (by decide +kernel), List.mem_of_getElem? (i := 838) (by decide +kernel), List.mem_of_getElem? (i := 839) (by decide +kernel)⟩
theorem lw_p22 : lw_okq (⟨"OldBeamsModel", "whole", "(I)I"⟩, 45) := ⟨⟨by decide +kernel, by decide +kernel⟩, List.mem_of_getElem? (i := 631) (by decide +kernel), List.mem_of_getElem? (i := 842) (by decide +kernel), List.mem_of_getElem? (i := 843) (by decide +kernel)⟩
theorem lw_p23 : lw_okq (⟨"OldBeamsModel", "downMany", "()I"⟩, 45) := ⟨⟨by decide +kernel, by decide +kernel⟩, List.mem_of_getElem? (i := 631) (by decide +kernel), List.mem_of_getElem? (i := 871) (by decide +kernel), List.mem_of_getElem? (i := 872) (by decide +kernel)⟩
theorem lw_p24 : lw_okq (⟨"OldBeamsModel", "mayTell", "(IZ)I"⟩, 45) := ⟨⟨by decide +kernel, by decide +kernel⟩, List.mem_of_getElem? (i := 631) (by decide +kernel), List.mem_of_getElem? (i := 879) (by decide +kernel), List.mem_of_getElem? (i := 880) (by decide +kernel)⟩
theorem lw_p25 : lw_okq (⟨"OldBeamsModel", "isLifting", "(I)Z"⟩, 45) := ⟨⟨by decide +kernel, by decide +kernel⟩, List.mem_of_getElem? (i := 631) (by decide +kernel), List.mem_of_getElem? (i := 895) (by decide +kernel), List.mem_of_getElem? (i := 896) (by decide +kernel)⟩
theorem lw_p26 : lw_okq (⟨"OldBeamsModel", "isHolding", "(II)Z"⟩, 45) := ⟨⟨by decide +kernel, by decide +kernel⟩, List.mem_of_getElem? (i := 631) (by decide +kernel), List.mem_of_getElem? (i := 903) (by decide +kernel), List.mem_of_getElem? (i := 904) (by decide +kernel)⟩
theorem lw_p27 : lw_okq (⟨"OldBeamsModel", "looksAt", "(I)I"⟩, 45) := ⟨⟨by decide +kernel, by decide +kernel⟩, List.mem_of_getElem? (i := 631) (by decide +kernel), List.mem_of_getElem? (i := 916) (by decide +kernel), List.mem_of_getElem? (i := 917) (by decide +kernel)⟩
theorem lw_p28 : lw_okq (⟨"OldBeamsModel", "layOdds", "(II)V"⟩, 45) := ⟨⟨by decide +kernel, by decide +kernel⟩, List.mem_of_getElem? (i := 631) (by decide +kernel), List.mem_of_getElem? (i := 935) (by decide +kernel), List.mem_of_getElem? (i := 936) (by decide +kernel)⟩
theorem lw_p29 : lw_okq (⟨"OldBeamsModel", "takeLook", "(I)V"⟩, 45) := ⟨⟨by decide +kernel, by decide +kernel⟩, List.mem_of_getElem? (i := 631) (by decide +kernel), List.mem_of_getElem? (i := 939) (by decide +kernel), List.mem_of_getElem? (i := 940) (by decide +kernel)⟩
theorem lw_p30 : lw_okq (⟨"OldBeamsModel", "comes", "(III)I"⟩, 45) := ⟨⟨by decide +kernel, by decide +kernel⟩, List.mem_of_getElem? (i := 631) (by decide +kernel), List.mem_of_getElem? (i := 943) (by decide +kernel), List.mem_of_getElem? (i := 944) (by decide +kernel)⟩
theorem lw_p31 : lw_okq (⟨"OldBeamsModel", "shareOf", "(IIIZ)I"⟩, 45) := ⟨⟨by decide +kernel, by decide +kernel⟩, List.mem_of_getElem? (i := 631) (by decide +kernel), List.mem_of_getElem? (i := 961) (by decide +kernel), List.mem_of_getElem? (i := 962) (by decide +kernel)⟩
def lw_privs_2 : List (MethodName × Nat) := [(⟨"OldBeamsModel", "tryNow", "()V"⟩, 45), (⟨"OldBeamsModel", "layTried", "()V"⟩, 45), (⟨"OldBeamsModel", "layDown", "()V"⟩, 45), (⟨"OldBeamsModel", "layPush", "(I)V"⟩, 45), (⟨"OldBeamsModel", "layGreat", "(I)V"⟩, 45), (⟨"OldBeamsModel", "bendingOf", "(II)J"⟩, 45), (⟨"OldBeamsModel", "whole", "(I)I"⟩, 45), (⟨"OldBeamsModel", "downMany", "()I"⟩, 45), (⟨"OldBeamsModel", "mayTell", "(IZ)I"⟩, 45), (⟨"OldBeamsModel", "isLifting", "(I)Z"⟩, 45), (⟨"OldBeamsModel", "isHolding", "(II)Z"⟩, 45), (⟨"OldBeamsModel", "looksAt", "(I)I"⟩, 45), (⟨"OldBeamsModel", "layOdds", "(II)V"⟩, 45), (⟨"OldBeamsModel", "takeLook", "(I)V"⟩, 45), (⟨"OldBeamsModel", "comes", "(III)I"⟩, 45), (⟨"OldBeamsModel", "shareOf", "(IIIZ)I"⟩, 45)]
theorem lw_r2 : ∀ q ∈ lw_privs_2, lw_okq q := List.forall_mem_cons.mpr ⟨lw_p16, List.forall_mem_cons.mpr ⟨lw_p17, List.forall_mem_cons.mpr ⟨lw_p18, List.forall_mem_cons.mpr ⟨lw_p19, List.forall_mem_cons.mpr ⟨lw_p20, List.forall_mem_cons.mpr ⟨lw_p21, List.forall_mem_cons.mpr ⟨lw_p22, List.forall_mem_cons.mpr ⟨lw_p23, List.forall_mem_cons.mpr ⟨lw_p24, List.forall_mem_cons.mpr ⟨lw_p25, List.forall_mem_cons.mpr ⟨lw_p26, List.forall_mem_cons.mpr ⟨lw_p27, List.forall_mem_cons.mpr ⟨lw_p28, List.forall_mem_cons.mpr ⟨lw_p29, List.forall_mem_cons.mpr ⟨lw_p30, List.forall_mem_cons.mpr ⟨lw_p31, fun _ h => absurd h List.not_mem_nil⟩⟩⟩⟩⟩⟩⟩⟩⟩⟩⟩⟩⟩⟩⟩⟩
theorem lw_p32 : lw_okq (⟨"OldBeamsModel", "isStanding", "(IIZ)Z"⟩, 45) := ⟨⟨by decide +kernel, by decide +kernel⟩, List.mem_of_getElem? (i := 631) (by decide +kernel), List.mem_of_getElem? (i := 969) (by decide +kernel), List.mem_of_getElem? (i := 970) (by decide +kernel)⟩
theorem lw_p33 : lw_okq (⟨"OldBeamsModel", "layChance", "(II)V"⟩, 45) := ⟨⟨by decide +kernel, by decide +kernel⟩, List.mem_of_getElem? (i := 631) (by decide +kernel), List.mem_of_getElem? (i := 981) (by decide +kernel), List.mem_of_getElem? (i := 982) (by decide +kernel)⟩
theorem lw_p34 : lw_okq (⟨"OldBeamsModel", "layFall", "(II)V"⟩, 45) := ⟨⟨by decide +kernel, by decide +kernel⟩, List.mem_of_getElem? (i := 631) (by decide +kernel), List.mem_of_getElem? (i := 999) (by decide +kernel), List.mem_of_getElem? (i := 1000) (by decide +kernel)⟩
theorem lw_p35 : lw_okq (⟨"OldBeamsModel", "firstFalling", "(I)I"⟩, 45) := ⟨⟨by decide +kernel, by decide +kernel⟩, List.mem_of_getElem? (i := 631) (by decide +kernel), List.mem_of_getElem? (i := 1003) (by decide +kernel), List.mem_of_getElem? (i := 1004) (by decide +kernel)⟩
theorem lw_p36 : lw_okq (⟨"OldBeamsModel", "bestProps", "(I)I"⟩, 45) := ⟨⟨by decide +kernel, by decide +kernel⟩, List.mem_of_getElem? (i := 631) (by decide +kernel), List.mem_of_getElem? (i := 1015) (by decide +kernel), List.mem_of_getElem? (i := 1016) (by decide +kernel)⟩
theorem lw_p37 : lw_okq (⟨"OldBeamsModel", "least", "(JJ)J"⟩, 45) := ⟨⟨by decide +kernel, by decide +kernel⟩, List.mem_of_getElem? (i := 631) (by decide +kernel), List.mem_of_getElem? (i := 1037) (by decide +kernel), List.mem_of_getElem? (i := 1038) (by decide +kernel)⟩
theorem lw_p38 : lw_okq (⟨"OldBeamsModel", "worthOf", "(II)J"⟩, 45) := ⟨⟨by decide +kernel, by decide +kernel⟩, List.mem_of_getElem? (i := 631) (by decide +kernel), List.mem_of_getElem? (i := 1045) (by decide +kernel), List.mem_of_getElem? (i := 1046) (by decide +kernel)⟩
def lw_privs_3 : List (MethodName × Nat) := [(⟨"OldBeamsModel", "isStanding", "(IIZ)Z"⟩, 45), (⟨"OldBeamsModel", "layChance", "(II)V"⟩, 45), (⟨"OldBeamsModel", "layFall", "(II)V"⟩, 45), (⟨"OldBeamsModel", "firstFalling", "(I)I"⟩, 45), (⟨"OldBeamsModel", "bestProps", "(I)I"⟩, 45), (⟨"OldBeamsModel", "least", "(JJ)J"⟩, 45), (⟨"OldBeamsModel", "worthOf", "(II)J"⟩, 45)]
theorem lw_r3 : ∀ q ∈ lw_privs_3, lw_okq q := List.forall_mem_cons.mpr ⟨lw_p32, List.forall_mem_cons.mpr ⟨lw_p33, List.forall_mem_cons.mpr ⟨lw_p34, List.forall_mem_cons.mpr ⟨lw_p35, List.forall_mem_cons.mpr ⟨lw_p36, List.forall_mem_cons.mpr ⟨lw_p37, List.forall_mem_cons.mpr ⟨lw_p38, fun _ h => absurd h List.not_mem_nil⟩⟩⟩⟩⟩⟩⟩
def lw_privs : List (MethodName × Nat) := lw_privs_1 ++ (lw_privs_2 ++ (lw_privs_3))
def lw_tbl : List Cond := k2_sels lw_privs ++ tables_1
theorem lw_privs_ok : ∀ q ∈ lw_privs, lw_okq q := by
  show ∀ q ∈ lw_privs_1 ++ (lw_privs_2 ++ (lw_privs_3)), lw_okq q
  exact List.forall_mem_append.mpr ⟨lw_r1, List.forall_mem_append.mpr ⟨lw_r2, lw_r3⟩⟩
end
section
def RX_O : String := "OldBeams"
def TX_O : u_T := fun k => ([("OldBeams", "frame", "LOldBeams$Frame;", true), ("OldBeams", "looks", "LOldBeams$Looks;", true), ("OldBeams", "fraction", "LOldBeams$Fraction;", true), ("OldBeams", "best", "LOldBeams$Fraction;", true), ("OldBeams", "prices", "[I", true), ("OldBeams", "shares", "[I", true), ("OldBeams", "fallOrder", "[I", true)] : List (String × String × String × Bool)).getD k ("", "", "", false)
def ty_O : Nat → FieldType := fun k => ([(.object "OldBeams$Frame"), (.object "OldBeams$Looks"), (.object "OldBeams$Fraction"), (.object "OldBeams$Fraction"), (.array .int), (.array .int), (.array .int)] : List FieldType).getD k .int
theorem nm_O : ∀ a, a < 7 → ∀ b, b < 7 → a ≠ b → (TX_O a).2.1 ≠ (TX_O b).2.1 := by decide +kernel
theorem tyok_O : ∀ k, k < 7 → parseFieldDescriptor (TX_O k).2.2.1 = some (ty_O k) := by decide +kernel
theorem lay_O : ∀ w ∈ u_ws RX_O TX_O 7, w ∈ lw_tbl.filter goodWord := by decide +kernel
def RX_F : String := "OldBeams$Frame"
def TX_F : u_T := fun k => ([("OldBeams$Frame", "kinds", "[[I", true), ("OldBeams$Frame", "beams", "[LOldBeams$Beam;", true), ("OldBeams$Frame", "beamCount", "I", false), ("OldBeams$Frame", "fallen", "I", false), ("OldBeams$Frame", "loadBeam", "[I", true), ("OldBeams$Frame", "loadPlace", "[I", true), ("OldBeams$Frame", "loadWeight", "[I", true), ("OldBeams$Frame", "loadIsOn", "[Z", true), ("OldBeams$Frame", "loadCount", "I", false), ("OldBeams$Frame", "propBeam", "[I", true), ("OldBeams$Frame", "propPlace", "[I", true), ("OldBeams$Frame", "propPush", "[I", true), ("OldBeams$Frame", "propCount", "I", false), ("OldBeams$Frame", "setProps", "I", false), ("OldBeams$Frame", "triedDown", "I", false)] : List (String × String × String × Bool)).getD k ("", "", "", false)
def ty_F : Nat → FieldType := fun k => ([(.array (.array .int)), (.array (.object "OldBeams$Beam")), .int, .int, (.array .int), (.array .int), (.array .int), (.array .boolean), .int, (.array .int), (.array .int), (.array .int), .int, .int, .int] : List FieldType).getD k .int
theorem nm_F : ∀ a, a < 15 → ∀ b, b < 15 → a ≠ b → (TX_F a).2.1 ≠ (TX_F b).2.1 := by decide +kernel
theorem tyok_F : ∀ k, k < 15 → parseFieldDescriptor (TX_F k).2.2.1 = some (ty_F k) := by decide +kernel
theorem lay_F : ∀ w ∈ u_ws RX_F TX_F 15, w ∈ lw_tbl.filter goodWord := by decide +kernel
def RX_K : String := "OldBeams$Looks"
def TX_K : u_T := fun k => ([("OldBeams$Looks", "weights", "[[I", true), ("OldBeams$Looks", "tools", "[[I", true), ("OldBeams$Looks", "lookBeam", "[I", true), ("OldBeams$Looks", "lookTool", "[I", true), ("OldBeams$Looks", "lookOutcome", "[I", true), ("OldBeams$Looks", "lookYear", "[I", true), ("OldBeams$Looks", "lookCount", "I", false), ("OldBeams$Looks", "known", "[J", true), ("OldBeams$Looks", "next", "[J", true)] : List (String × String × String × Bool)).getD k ("", "", "", false)
def ty_K : Nat → FieldType := fun k => ([(.array (.array .int)), (.array (.array .int)), (.array .int), (.array .int), (.array .int), (.array .int), .int, (.array .long), (.array .long)] : List FieldType).getD k .int
theorem nm_K : ∀ a, a < 9 → ∀ b, b < 9 → a ≠ b → (TX_K a).2.1 ≠ (TX_K b).2.1 := by decide +kernel
theorem tyok_K : ∀ k, k < 9 → parseFieldDescriptor (TX_K k).2.2.1 = some (ty_K k) := by decide +kernel
theorem lay_K : ∀ w ∈ u_ws RX_K TX_K 9, w ∈ lw_tbl.filter goodWord := by decide +kernel
def RX_Q : String := "OldBeams$Fraction"
def TX_Q : u_T := fun k => ([("OldBeams$Fraction", "above", "J", false), ("OldBeams$Fraction", "below", "J", false)] : List (String × String × String × Bool)).getD k ("", "", "", false)
def ty_Q : Nat → FieldType := fun k => ([.long, .long] : List FieldType).getD k .int
theorem nm_Q : ∀ a, a < 2 → ∀ b, b < 2 → a ≠ b → (TX_Q a).2.1 ≠ (TX_Q b).2.1 := by decide +kernel
theorem tyok_Q : ∀ k, k < 2 → parseFieldDescriptor (TX_Q k).2.2.1 = some (ty_Q k) := by decide +kernel
theorem lay_Q : ∀ w ∈ u_ws RX_Q TX_Q 2, w ∈ lw_tbl.filter goodWord := by decide +kernel
def RX_B : String := "OldBeams$Beam"
def TX_B : u_T := fun k => ([("OldBeams$Beam", "kind", "I", false), ("OldBeams$Beam", "length", "I", false), ("OldBeams$Beam", "width", "I", false), ("OldBeams$Beam", "height", "I", false), ("OldBeams$Beam", "isWet", "Z", false), ("OldBeams$Beam", "place", "[I", true), ("OldBeams$Beam", "on", "[I", true), ("OldBeams$Beam", "where", "[I", true), ("OldBeams$Beam", "loaded", "[J", true), ("OldBeams$Beam", "forces", "[J", true), ("OldBeams$Beam", "push", "[J", true), ("OldBeams$Beam", "greatestBending", "J", false), ("OldBeams$Beam", "greatestPlace", "I", false)] : List (String × String × String × Bool)).getD k ("", "", "", false)
def ty_B : Nat → FieldType := fun k => ([.int, .int, .int, .int, .boolean, (.array .int), (.array .int), (.array .int), (.array .long), (.array .long), (.array .long), .long, .int] : List FieldType).getD k .int
theorem nm_B : ∀ a, a < 13 → ∀ b, b < 13 → a ≠ b → (TX_B a).2.1 ≠ (TX_B b).2.1 := by decide +kernel
theorem tyok_B : ∀ k, k < 13 → parseFieldDescriptor (TX_B k).2.2.1 = some (ty_B k) := by decide +kernel
theorem lay_B : ∀ w ∈ u_ws RX_B TX_B 13, w ∈ lw_tbl.filter goodWord := by decide +kernel
def RX_M : String := "OldBeamsModel"
def TX_M : u_T := fun k => ([("OldBeamsModel", "grade", "[I", true), ("OldBeamsModel", "rot", "[I", true), ("OldBeamsModel", "beams", "I", false), ("OldBeamsModel", "kind", "[I", true), ("OldBeamsModel", "length", "[I", true), ("OldBeamsModel", "width", "[I", true), ("OldBeamsModel", "height", "[I", true), ("OldBeamsModel", "isWet", "[Z", true), ("OldBeamsModel", "hasFallen", "[Z", true), ("OldBeamsModel", "seatAt", "[I", true), ("OldBeamsModel", "seatOn", "[I", true), ("OldBeamsModel", "seatWhere", "[I", true), ("OldBeamsModel", "loads", "I", false), ("OldBeamsModel", "loadBeam", "[I", true), ("OldBeamsModel", "loadPlace", "[I", true), ("OldBeamsModel", "loadWeight", "[I", true), ("OldBeamsModel", "isOff", "[Z", true), ("OldBeamsModel", "props", "I", false), ("OldBeamsModel", "propBeam", "[I", true), ("OldBeamsModel", "propPlace", "[I", true), ("OldBeamsModel", "propPush", "[I", true), ("OldBeamsModel", "isSet", "[Z", true), ("OldBeamsModel", "tryFallen", "[Z", true), ("OldBeamsModel", "trySet", "[Z", true), ("OldBeamsModel", "isDown", "[Z", true), ("OldBeamsModel", "forces", "[J", true), ("OldBeamsModel", "push", "[J", true), ("OldBeamsModel", "great", "[J", true), ("OldBeamsModel", "greatPlace", "[I", true), ("OldBeamsModel", "weight", "[I", true), ("OldBeamsModel", "often", "[I", true), ("OldBeamsModel", "looks", "I", false), ("OldBeamsModel", "lookBeam", "[I", true), ("OldBeamsModel", "lookTool", "[I", true), ("OldBeamsModel", "lookOutcome", "[I", true), ("OldBeamsModel", "lookYear", "[I", true), ("OldBeamsModel", "odds", "[J", true), ("OldBeamsModel", "next", "[J", true), ("OldBeamsModel", "firstQuarrel", "I", false), ("OldBeamsModel", "holdSum", "J", false), ("OldBeamsModel", "allSum", "J", false), ("OldBeamsModel", "fallen", "[I", true), ("OldBeamsModel", "fallMany", "I", false), ("OldBeamsModel", "mend", "I", false), ("OldBeamsModel", "loss", "I", false)] : List (String × String × String × Bool)).getD k ("", "", "", false)
def ty_M : Nat → FieldType := fun k => ([(.array .int), (.array .int), .int, (.array .int), (.array .int), (.array .int), (.array .int), (.array .boolean), (.array .boolean), (.array .int), (.array .int), (.array .int), .int, (.array .int), (.array .int), (.array .int), (.array .boolean), .int, (.array .int), (.array .int), (.array .int), (.array .boolean), (.array .boolean), (.array .boolean), (.array .boolean), (.array .long), (.array .long), (.array .long), (.array .int), (.array .int), (.array .int), .int, (.array .int), (.array .int), (.array .int), (.array .int), (.array .long), (.array .long), .int, .long, .long, (.array .int), .int, .int, .int] : List FieldType).getD k .int
theorem nm_M : ∀ a, a < 45 → ∀ b, b < 45 → a ≠ b → (TX_M a).2.1 ≠ (TX_M b).2.1 := by decide +kernel
theorem tyok_M : ∀ k, k < 45 → parseFieldDescriptor (TX_M k).2.2.1 = some (ty_M k) := by decide +kernel
theorem lay_M : ∀ w ∈ u_ws RX_M TX_M 45, w ∈ lw_tbl.filter goodWord := by decide +kernel
end
section
/-! the picture of a side's memory: cells by number, ints as Int, longs as Int64 -/
def iI (z : Int) : Int32 := Int32.ofInt z
def lI (z : Int) : Int64 := Int64.ofInt z
def zb (P : Prop) [Decidable P] : Int := if P then 1 else 0
abbrev zM : Type := (Nat → Nat → Int) × (Nat → Nat → Int64)
def zI (M : zM) (k i : Nat) (z : Int) : zM := (fun a b => if a = k ∧ b = i then z else M.1 a b, M.2)
def zJ (M : zM) (k i : Nat) (x : Int64) : zM := (M.1, fun a b => if a = k ∧ b = i then x else M.2 a b)
abbrev zE : Type := va_G × (Nat → ClassId) × (Nat → Nat)
/-- a side: how many cells; each one's shape (0 ints, 1 booleans, 2 longs, 3 beams, 4 rows of ints, with a length; 5 and more: an object); an object's fields (0 an int, 2 a long, 6 a cell of that number); what arrays of references hold -/
abbrev zSd : Type := Nat × (Nat → Nat × Nat) × (Nat → List (Nat × Nat)) × (Nat → Nat → Nat)
def fv (E : zE) (I : Nat → Int) (J : Nat → Int64) (d : Nat × Nat) (i : Nat) : Value := if d.1 = 0 then .int (iI (I i)) else if d.1 = 2 then .long (J i) else .ref (E.2.2 d.2)
def fsO (E : zE) (I : Nat → Int) (J : Nat → Int64) (ds : List (Nat × Nat)) : List Value := (List.range ds.length).map (fun i => fv E I J (ds.getD i (6, 0)) i)
def zce (sd : zSd) (E : zE) (M : zM) (k : Nat) : va_E :=
  if (sd.2.1 k).1 = 0 then .inl (E.2.1 0, (sd.2.1 k).2, .inl (fun i => iI (M.1 k i)))
  else if (sd.2.1 k).1 = 1 then .inl (E.2.1 1, (sd.2.1 k).2, .inl (fun i => iI (M.1 k i)))
  else if (sd.2.1 k).1 = 2 then .inl (E.2.1 2, (sd.2.1 k).2, .inr (.inl (fun i => M.2 k i)))
  else if (sd.2.1 k).1 = 3 then .inl (E.2.1 3, (sd.2.1 k).2, .inr (.inr (.inr (.inr (fun i => some (E.2.2 (sd.2.2.2 k i)))))))
  else if (sd.2.1 k).1 = 4 then .inl (E.2.1 4, (sd.2.1 k).2, .inr (.inr (.inr (.inr (fun i => some (E.2.2 (sd.2.2.2 k i)))))))
  else .inr ((sd.2.1 k).1 - 5, fsO E (M.1 k) (M.2 k) (sd.2.2.1 k))
abbrev zG : Type := zSd × zE × (Option Value → zM → Prop) × Launch × Program × Env × Room × State × MethodId × Array Value × List Frame × Method × Code
abbrev zad (G : zG) (k : Nat) : Nat := G.2.1.2.2 k
def tb : List Cond := lw_tbl.filter goodWord
theorem tb_in {w : Cond} (h : w ∈ lw_tbl) (hg : goodWord w = true) : w ∈ tb := List.mem_filter.mpr ⟨h, hg⟩
theorem tb_good : ∀ w ∈ tb, w ∈ tb ∧ ((w.onTables && w.keeps) = true ∨ ∃ ty, w = .arrayClass ty) := fun w h => ⟨h, good_of_word (List.mem_filter.mp h).2⟩
def zN (U : State) : Prop := va_Nw (.methodLinkNest "OldBeams$Frame" 83 ⟨"OldBeams", "isIn", "(II)Z"⟩ "OldBeams") U ∧ va_Nw (.methodLinkNest "OldBeams$Frame" 50 ⟨"OldBeams", "within", "(III)Z"⟩ "OldBeams") U ∧ va_Nw (.methodLinkNest "OldBeams$Frame" 45 ⟨"OldBeams$Beam", "<init>", "()V"⟩ "OldBeams") U ∧ va_Nw (.methodLinkNest "OldBeams" 25 ⟨"OldBeams$Fraction", "<init>", "()V"⟩ "OldBeams") U
theorem zN.warm {s U : State} (hW : s.WarmedH U.vm) (h : zN s) : zN U := ⟨va_Nw.warmM hW h.1, va_Nw.warmM hW h.2.1, va_Nw.warmM hW h.2.2.1, va_Nw.warmM hW h.2.2.2⟩
theorem zN.same {u U : State} (hv : u.vm = U.vm) (h : zN u) : zN U := ⟨va_Nw.same rfl hv h.1, va_Nw.same rfl hv h.2.1, va_Nw.same rfl hv h.2.2.1, va_Nw.same rfl hv h.2.2.2⟩
def zcl : List vw_C := [(RX_O, TX_O, 7), (RX_F, TX_F, 15), (RX_K, TX_K, 9), (RX_Q, TX_Q, 2), (RX_B, TX_B, 13), (RX_M, TX_M, 45)]
def zt (E : zE) : List (ClassId × FieldType) := [(E.2.1 0, .int), (E.2.1 1, .boolean), (E.2.1 2, .long), (E.2.1 3, .object "OldBeams$Beam"), (E.2.1 4, .array .int)]
def zw (sd : zSd) (E : zE) (M : zM) : va_W := (List.range sd.1).map (fun k => (E.2.2 k, zce sd E M k))
def zA (sd : zSd) (E : zE) : Nat → Prop := fun q => ∃ k, k < sd.1 ∧ q = E.2.2 k
theorem zw_at {sd : zSd} {E : zE} {M : zM} {k : Nat} (h : k < sd.1) : (zw sd E M)[k]? = some (E.2.2 k, zce sd E M k) := by
  unfold zw
  rw [List.getElem?_map, List.getElem?_range h]
  rfl
theorem zw_set {sd : zSd} {E : zE} {M M' : zM} {k : Nat} (h : k < sd.1) (hn : ∀ j, j ≠ k → zce sd E M' j = zce sd E M j) : (zw sd E M).set k (E.2.2 k, zce sd E M' k) = zw sd E M' := by
  apply List.ext_getElem?
  intro j
  by_cases hj : j < sd.1
  · by_cases e : j = k
    · subst e
      rw [List.getElem?_set_self (by simp [zw, h]), zw_at hj]
    · rw [List.getElem?_set_ne (fun q => e q.symm), zw_at hj, zw_at hj, hn j e]
  · have l1 : (zw sd E M).length = sd.1 := by simp [zw]
    have l2 : (zw sd E M').length = sd.1 := by simp [zw]
    rw [List.getElem?_eq_none (by rw [List.length_set, l1]; omega), List.getElem?_eq_none (by rw [l2]; omega)]
def zU (sd : zSd) (E : zE) (M : zM) (U : State) : Prop := va_P E.1 zcl (zw sd E M) U.heap ∧ va_D (zA sd E) (zw sd E M) ∧ va_K E.1 zcl (zt E) U ∧ zN U
/-- a method's contract on a side's memory: As the arguments, M the memory, P what comes back -/
def zRm (fr lc : Nat) : Room := { frames := fr, cells := 0, slots := 0, locals := lc }
def zQ (sd : zSd) (E : zE) (P : Option Value → zM → Prop) : Array Value → State → Outcome → State → Prop := fun _ st oc t => (∃ (v : Option Value) (M' : zM), oc = .returned v ∧ P v M' ∧ zU sd E M' t) ∧ va_F (zA sd E) st t
def zK (l : Launch) (sd : zSd) (E : zE) (y : MethodName) (bytes : ByteArray) (maxL : Nat) (ret : Option FieldType) (fr lc : Nat) (As : List Value) (M : zM) (P : Option Value → zM → Prop) : Prop :=
  Met l y (Cond.code y bytes maxL ret :: tb) (zRm fr lc) (va_Pc As (fun U => zU sd E M U)) (zQ sd E P) 0 0 (zA sd E)
def zPi (p : Int → zM → Prop) : Option Value → zM → Prop := fun v M' => ∃ z, v = some (.int (iI z)) ∧ p z M'
def zPl (p : Int64 → zM → Prop) : Option Value → zM → Prop := fun v M' => ∃ x, v = some (.long x) ∧ p x M'
def zPv (p : zM → Prop) : Option Value → zM → Prop := fun v M' => v = none ∧ p M'
/-- the locals, slot by slot -/
def lh (ls : Array Slot) (lo : List (Option Value)) : Prop := ls.size = lo.length ∧ lv_wf ls ∧ ∀ (i : Nat) (v : Value), lo[i]? = some (some v) → ls[i]? = some (.val v)
def zlo : List Value → List (Option Value)
  | [] => []
  | v :: vs => if v.category = 2 then some v :: none :: zlo vs else some v :: zlo vs
def zc1 (o : Option Value) : Bool := match o with
  | none => true
  | some v => v.category == 1
theorem zc1_spec {o : Option Value} (h : zc1 o = true) {v : Value} (hv : o = some v) : v.category = 1 := by
  subst hv
  simpa [zc1] using h
theorem lh_one {ls : Array Slot} {lo : List (Option Value)} (h : lh ls lo) {j : Nat} {w : Value} (hw : lo[j]? = some (some w)) : lv_has ls lo.length [(j, w)] := ⟨h.1, h.2.1, fun q hq => by
  rw [List.mem_singleton.mp hq]
  exact h.2.2 j w hw⟩
theorem lh_nil {ls : Array Slot} {lo : List (Option Value)} (h : lh ls lo) : lv_has ls lo.length [] := ⟨h.1, h.2.1, fun q hq => by cases hq⟩
theorem lh_store1 {ls : Array Slot} {lo : List (Option Value)} {i : Nat} {v : Value} (h : lh ls lo) (hi : i < lo.length) (hc : v.category = 1) (hp : ∀ (j : Nat) (w : Value), j + 1 = i → lo[j]? = some (some w) → w.category = 1) : ∃ ls', storeLocals ls i v = some ls' ∧ lh ls' (lo.set i (some v)) := by
  obtain ⟨ls', e, h'⟩ := lv_store1 (v := v) (lh_nil h) hi hc
  refine ⟨ls', e, by rw [h'.1, List.length_set], h'.2.1, fun j w hw => ?_⟩
  by_cases hj : j = i
  · subst hj
    rw [List.getElem?_set_self hi] at hw
    cases hw
    exact h'.2.2 (j, v) List.mem_cons_self
  · rw [List.getElem?_set_ne (fun q => hj q.symm)] at hw
    obtain ⟨ls2, e2, h2⟩ := lv_store1 (v := v) (lh_one h hw) hi hc
    rw [e] at e2
    cases e2
    refine h2.2.2 (j, w) (List.mem_cons_of_mem _ (List.mem_filter.mpr ⟨List.mem_singleton.mpr rfl, ?_⟩))
    by_cases hj1 : j + 1 = i
    · have := hp j w hj1 hw
      simp [hj, hj1, this]
    · simp [hj, hj1]
theorem lh_store2 {ls : Array Slot} {lo : List (Option Value)} {i : Nat} {v : Value} (h : lh ls lo) (hi : i + 1 < lo.length) (hc : v.category = 2) (hp : ∀ (j : Nat) (w : Value), j + 1 = i → lo[j]? = some (some w) → w.category = 1) : ∃ ls', storeLocals ls i v = some ls' ∧ lh ls' ((lo.set i (some v)).set (i + 1) none) := by
  obtain ⟨ls', e, h'⟩ := lv_store2 (v := v) (lh_nil h) hi hc
  refine ⟨ls', e, by rw [h'.1, List.length_set, List.length_set], h'.2.1, fun j w hw => ?_⟩
  by_cases hj2 : j = i + 1
  · subst hj2
    rw [List.getElem?_set_self (by rw [List.length_set]; exact hi)] at hw
    cases hw
  · rw [List.getElem?_set_ne (fun q => hj2 q.symm)] at hw
    by_cases hj : j = i
    · subst hj
      rw [List.getElem?_set_self (by omega)] at hw
      cases hw
      exact h'.2.2 (j, v) List.mem_cons_self
    · rw [List.getElem?_set_ne (fun q => hj q.symm)] at hw
      obtain ⟨ls2, e2, h2⟩ := lv_store2 (v := v) (lh_one h hw) hi hc
      rw [e] at e2
      cases e2
      refine h2.2.2 (j, w) (List.mem_cons_of_mem _ (List.mem_filter.mpr ⟨List.mem_singleton.mpr rfl, ?_⟩))
      by_cases hj1 : j + 1 = i
      · have := hp j w hj1 hw
        simp [hj, hj1, hj2, this]
      · simp [hj, hj1, hj2]
theorem zlo_args : ∀ (vs : List Value) (k j : Nat) (w : Value), (zlo vs)[j]? = some (some w) → (k + j, w) ∈ lv_args k vs
  | [], k, j, w, h => by simp [zlo] at h
  | v :: vs, k, j, w, h => by
    unfold zlo at h
    unfold lv_args
    by_cases hc : v.category = 2
    · rw [if_pos hc] at h ⊢
      match j, h with
      | 0, h => cases h; exact List.mem_cons_self
      | 1, h => cases h
      | j + 2, h =>
        refine List.mem_cons_of_mem _ ?_
        have := zlo_args vs (k + 2) j w (by simpa using h)
        rwa [show k + 2 + j = k + (j + 2) by omega] at this
    · rw [if_neg hc] at h ⊢
      match j, h with
      | 0, h => cases h; exact List.mem_cons_self
      | j + 1, h =>
        refine List.mem_cons_of_mem _ ?_
        have := zlo_args vs (k + 1) j w (by simpa using h)
        rwa [show k + 1 + j = k + (j + 1) by omega] at this
theorem zlo_len : ∀ vs : List Value, (zlo vs).length = (lg_sl vs).length
  | [] => rfl
  | v :: vs => by
    have ih := zlo_len vs
    unfold zlo
    by_cases hc : v.category = 2
    · rw [if_pos hc]
      simp [lg_sl, hc] at ih ⊢
      omega
    · rw [if_neg hc]
      simp [lg_sl, hc] at ih ⊢
      omega
theorem lh_entry {vs : List Value} {n : Nat} (h : (zlo vs).length ≤ n) : lh ((lg_sl vs ++ List.replicate (n - (lg_sl vs).length) Slot.unset).toArray) (zlo vs ++ List.replicate (n - (zlo vs).length) none) := by
  have hv := lv_entry vs (n := n) (by rw [← zlo_len]; exact h)
  refine ⟨?_, hv.2.1, fun i v hi => ?_⟩
  · rw [hv.1, List.length_append, List.length_replicate]
    omega
  · by_cases hl : i < (zlo vs).length
    · rw [List.getElem?_append_left hl] at hi
      have := zlo_args vs 0 i v hi
      rw [Nat.zero_add] at this
      exact hv.2.2 _ this
    · rw [List.getElem?_append_right (by omega)] at hi
      have := List.eq_of_mem_replicate (List.mem_of_getElem? hi)
      cases this
/-- the judgement: from memory M, at pc, with these locals and this stack, the method comes to its end as its contract says -/
def VJ (G : zG) (M : zM) (pc : Nat) (lo : List (Option Value)) (st : List Value) : Prop := match G with
  | (sd, E, P, l, p, e, R, s, m, args, below, meth, c) => ∀ (H : Heap) (locs : List Loc) (ls : Array Slot), va_P E.1 zcl (zw sd E M) H → va_D (zA sd E) (zw sd E M) → va_S (zA sd E) s.heap H locs → lh ls lo → W p l e R s m args below meth c H locs 0 0 (MQ below (zQ sd E P) args s 0 0 (zA sd E)) (F0 m pc ls st)
def zC (G : zG) (cc : ByteArray) (own : String) (ret : Option FieldType) (nL fr lc : Nat) : Prop := match G with
  | (sd, E, P, l, p, e, R, s, m, args, below, meth, c) => p.tables.exec = Jvm.exec ∧ c.code = cc ∧ meth.sig.returnType = ret ∧ c.maxLocals = nL ∧ s.vm.findClass own = some m.cls ∧ (∀ w ∈ tb, w.before args s = true) ∧ va_K E.1 zcl (zt E) s ∧ zN s ∧ meth.locks = false ∧ R = zRm fr lc
theorem zK.of {l : Launch} {sd : zSd} {E : zE} {y : MethodName} {bytes : ByteArray} {maxL : Nat} {ret : Option FieldType} {fr lc : Nat} {As : List Value} {M : zM} {P : Option Value → zM → Prop} (own : String) (ho : y.cls = own) (hy : plainName y.cls = true) (hlen : (zlo As).length ≤ maxL)
    (body : ∀ G : zG, G.1 = sd → G.2.1 = E → G.2.2.1 = P → G.2.2.2.1 = l → zC G bytes own ret maxL fr lc → VJ G M 0 (zlo As ++ List.replicate (maxL - (zlo As).length) none) []) : zK l sd E y bytes maxL ret fr lc As M P := by
  refine Met.ofW (cc := bytes) (maxL := maxL) (ret := ret) hy rfl ?_
  intro p e s m args below meth c s₁ B hml hv
  obtain ⟨rfl, hP, hD, hK, hN⟩ := hv
  have hts := atoms_spec (ws := Cond.code y bytes maxL ret :: tb) B.pre
  have hown : s.vm.findClass own = some m.cls := ho ▸ findClass_of_methodNamed B.named
  have hb := body (sd, E, P, l, p, e, (headSpec (Cond.code y bytes maxL ret :: tb) (zRm fr lc)).room, s, m, As.toArray, below, meth, c) rfl rfl rfl rfl ⟨B.exec, B.bytes, B.returns, hml, hown, fun w hw => hts w (List.mem_cons_of_mem _ hw), hK, hN, B.notSynchronized, rfl⟩
  rw [lg_entry_eq]
  exact hb s.heap [] _ hP hD va_S.rf (lh_entry hlen)
end
section
theorem iI_add (a b : Int) : iI a + iI b = iI (a + b) := (Int32.ofInt_add a b).symm
theorem iI_sub (a b : Int) : iI a - iI b = iI (a - b) := (Int32.ofInt_sub a b).symm
theorem iI_mul (a b : Int) : iI a * iI b = iI (a * b) := (Int32.ofInt_mul a b).symm
theorem iI_neg (a : Int) : -(iI a) = iI (-a) := (Int32.ofInt_neg (a := a)).symm
theorem iI_toInt {a : Int} (h : -2147483648 ≤ a ∧ a < 2147483648) : (iI a).toInt = a := Int32.toInt_ofInt_of_le (by simpa using h.1) (by simpa using h.2)
theorem iI_of (x : Int32) : x = iI x.toInt := Int32.ofInt_toInt x |>.symm
theorem iI_rng (x : Int32) : -2147483648 ≤ x.toInt ∧ x.toInt < 2147483648 := ⟨Int32.le_toInt x, Int32.toInt_lt x⟩
theorem iI_lt {a b : Int} (ha : -2147483648 ≤ a ∧ a < 2147483648) (hb : -2147483648 ≤ b ∧ b < 2147483648) : iI a < iI b ↔ a < b := by rw [Int32.lt_iff_toInt_lt, iI_toInt ha, iI_toInt hb]
theorem iI_le {a b : Int} (ha : -2147483648 ≤ a ∧ a < 2147483648) (hb : -2147483648 ≤ b ∧ b < 2147483648) : iI a ≤ iI b ↔ a ≤ b := by rw [Int32.le_iff_toInt_le, iI_toInt ha, iI_toInt hb]
theorem iI_eq {a b : Int} (ha : -2147483648 ≤ a ∧ a < 2147483648) (hb : -2147483648 ≤ b ∧ b < 2147483648) : iI a = iI b ↔ a = b := by rw [← Int32.toInt_inj, iI_toInt ha, iI_toInt hb]
theorem iI_0 : iI 0 = 0 := rfl
theorem iI_nI (n : Nat) : iI (n : Int) = nI n := Int32.toInt_inj.mp (by simp [iI, nI, Int32.toInt_ofInt, Int32.toInt_ofNat'])
theorem iI_l {a : Int} (h : -2147483648 ≤ a ∧ a < 2147483648) : (iI a).toInt64 = lI a := by
  apply Int64.toInt_inj.mp
  rw [Int32.toInt_toInt64, iI_toInt h, lI, Int64.toInt_ofInt_of_le (by simp; omega) (by simp; omega)]
theorem iI_div {a b : Int} (ha : 0 ≤ a ∧ a < 2147483648) (hb : 0 < b ∧ b < 2147483648) : iI a / iI b = iI (a / b) := by
  obtain ⟨n, rfl⟩ := Int.eq_ofNat_of_zero_le ha.1
  obtain ⟨k, rfl⟩ := Int.eq_ofNat_of_zero_le (Int.le_of_lt hb.1)
  rw [iI_nI, iI_nI, pk_div (by omega) (by omega) (by omega), ← iI_nI]
  rfl
theorem iI_rem {a b : Int} (ha : 0 ≤ a ∧ a < 2147483648) (hb : 0 < b ∧ b < 2147483648) : iI a - iI a / iI b * iI b = iI (a % b) := by
  obtain ⟨n, rfl⟩ := Int.eq_ofNat_of_zero_le ha.1
  obtain ⟨k, rfl⟩ := Int.eq_ofNat_of_zero_le (Int.le_of_lt hb.1)
  rw [iI_nI, iI_nI, pk_rem (by omega) (by omega) (by omega), ← iI_nI]
  rfl
theorem iI_in {a : Int} {n : Nat} (h0 : 0 ≤ a) (h1 : a < n) (hn : n < 2147483648) : vp_in (iI a) n ∧ (iI a).toNatClampNeg = a.toNat := by
  obtain ⟨k, rfl⟩ := Int.eq_ofNat_of_zero_le h0
  rw [iI_nI]
  exact ⟨vp_in_nI (by omega) (by omega), nI_clamp (by omega)⟩
theorem zb_pos {P : Prop} [Decidable P] (h : P) : zb P = 1 := if_pos h
theorem zb_neg {P : Prop} [Decidable P] (h : ¬ P) : zb P = 0 := if_neg h
theorem zb_01 (P : Prop) [Decidable P] : zb P = 0 ∨ zb P = 1 := by
  by_cases h : P
  · exact Or.inr (zb_pos h)
  · exact Or.inl (zb_neg h)
theorem zb_congr {P Q : Prop} [Decidable P] [Decidable Q] (h : P ↔ Q) : zb P = zb Q := by
  by_cases q : Q
  · rw [zb_pos (h.mpr q), zb_pos q]
  · rw [zb_neg (fun p => q (h.mp p)), zb_neg q]
theorem r_iconst {G : zG} {cc : ByteArray} {own : String} {ret : Option FieldType} {nL fr lc : Nat} (C : zC G cc own ret nL fr lc) {M : zM} {lo : List (Option Value)} {st : List Value} {pc : Nat} {n : Int} (d : decode cc pc = .ok (.iconst n, 1)) (k : VJ G M (pc + 1) lo (.int (iI n) :: st)) : VJ G M pc lo (st) := by
  obtain ⟨sd, E, P, l, p, e, R, s, m, args, below, meth, c⟩ := G
  obtain ⟨hx, hb, hr, hml, hown, hts, hK, hN, hlk, hR⟩ := C
  intro H locs ls hP hD hS hl
  refine lv_iconst hx hb d rfl ?_
  exact k H locs ls hP hD hS hl
theorem r_bipush {G : zG} {cc : ByteArray} {own : String} {ret : Option FieldType} {nL fr lc : Nat} (C : zC G cc own ret nL fr lc) {M : zM} {lo : List (Option Value)} {st : List Value} {pc : Nat} {n : Int} (hn : (Int8.ofInt n).toInt32 = iI n) (d : decode cc pc = .ok (.bipush n, 2)) (k : VJ G M (pc + 2) lo (.int (iI n) :: st)) : VJ G M pc lo (st) := by
  obtain ⟨sd, E, P, l, p, e, R, s, m, args, below, meth, c⟩ := G
  obtain ⟨hx, hb, hr, hml, hown, hts, hK, hN, hlk, hR⟩ := C
  intro H locs ls hP hD hS hl
  refine lv_bipush hx hb d hn ?_
  exact k H locs ls hP hD hS hl
theorem r_sipush {G : zG} {cc : ByteArray} {own : String} {ret : Option FieldType} {nL fr lc : Nat} (C : zC G cc own ret nL fr lc) {M : zM} {lo : List (Option Value)} {st : List Value} {pc : Nat} {n : Int} (hn : (Int16.ofInt n).toInt32 = iI n) (d : decode cc pc = .ok (.sipush n, 3)) (k : VJ G M (pc + 3) lo (.int (iI n) :: st)) : VJ G M pc lo (st) := by
  obtain ⟨sd, E, P, l, p, e, R, s, m, args, below, meth, c⟩ := G
  obtain ⟨hx, hb, hr, hml, hown, hts, hK, hN, hlk, hR⟩ := C
  intro H locs ls hP hD hS hl
  refine lv_sipush hx hb d hn ?_
  exact k H locs ls hP hD hS hl
theorem r_lconst {G : zG} {cc : ByteArray} {own : String} {ret : Option FieldType} {nL fr lc : Nat} (C : zC G cc own ret nL fr lc) {M : zM} {lo : List (Option Value)} {st : List Value} {pc : Nat} {n : Fin 2} {v : Int64} (hv : Int64.ofNat (n : Nat) = v) (d : decode cc pc = .ok (.lconst n, 1)) (k : VJ G M (pc + 1) lo (.long v :: st)) : VJ G M pc lo (st) := by
  obtain ⟨sd, E, P, l, p, e, R, s, m, args, below, meth, c⟩ := G
  obtain ⟨hx, hb, hr, hml, hown, hts, hK, hN, hlk, hR⟩ := C
  intro H locs ls hP hD hS hl
  refine lv_lconst hx hb d hv ?_
  exact k H locs ls hP hD hS hl
theorem r_ldc {G : zG} {cc : ByteArray} {own : String} {ret : Option FieldType} {nL fr lc : Nat} (C : zC G cc own ret nL fr lc) {M : zM} {lo : List (Option Value)} {st : List Value} {pc : Nat} {i : Nat} {z : Int} {v : Int32} (hw : Cond.constant own i v ∈ tb) (hv : v = iI z) (d : decode cc pc = .ok (.ldc i, 2)) (k : VJ G M (pc + 2) lo (.int (iI z) :: st)) : VJ G M pc lo (st) := by
  obtain ⟨sd, E, P, l, p, e, R, s, m, args, below, meth, c⟩ := G
  obtain ⟨hx, hb, hr, hml, hown, hts, hK, hN, hlk, hR⟩ := C
  intro H locs ls hP hD hS hl
  refine lv_ldc hx hb hown (hts _ hw) d ?_
  rw [hv]
  exact k H locs ls hP hD hS hl
theorem r_ldc2 {G : zG} {cc : ByteArray} {own : String} {ret : Option FieldType} {nL fr lc : Nat} (C : zC G cc own ret nL fr lc) {M : zM} {lo : List (Option Value)} {st : List Value} {pc : Nat} {i : Nat} {v : Int64} (hw : Cond.constantLong own i v ∈ tb) (d : decode cc pc = .ok (.ldc2_w i, 3)) (k : VJ G M (pc + 3) lo (.long v :: st)) : VJ G M pc lo (st) := by
  obtain ⟨sd, E, P, l, p, e, R, s, m, args, below, meth, c⟩ := G
  obtain ⟨hx, hb, hr, hml, hown, hts, hK, hN, hlk, hR⟩ := C
  intro H locs ls hP hD hS hl
  refine lv_ldc2 hx hb hown (hts _ hw) d ?_
  exact k H locs ls hP hD hS hl
theorem r_iadd {G : zG} {cc : ByteArray} {own : String} {ret : Option FieldType} {nL fr lc : Nat} (C : zC G cc own ret nL fr lc) {M : zM} {lo : List (Option Value)} {st : List Value} {pc : Nat} {a b : Int} (d : decode cc pc = .ok (.iadd, 1)) (k : VJ G M (pc + 1) lo (.int (iI (a + b)) :: st)) : VJ G M pc lo (.int (iI b) :: .int (iI a) :: st) := by
  obtain ⟨sd, E, P, l, p, e, R, s, m, args, below, meth, c⟩ := G
  obtain ⟨hx, hb, hr, hml, hown, hts, hK, hN, hlk, hR⟩ := C
  intro H locs ls hP hD hS hl
  refine lv_iadd hx hb d ?_
  rw [iI_add]
  exact k H locs ls hP hD hS hl
theorem r_isub {G : zG} {cc : ByteArray} {own : String} {ret : Option FieldType} {nL fr lc : Nat} (C : zC G cc own ret nL fr lc) {M : zM} {lo : List (Option Value)} {st : List Value} {pc : Nat} {a b : Int} (d : decode cc pc = .ok (.isub, 1)) (k : VJ G M (pc + 1) lo (.int (iI (a - b)) :: st)) : VJ G M pc lo (.int (iI b) :: .int (iI a) :: st) := by
  obtain ⟨sd, E, P, l, p, e, R, s, m, args, below, meth, c⟩ := G
  obtain ⟨hx, hb, hr, hml, hown, hts, hK, hN, hlk, hR⟩ := C
  intro H locs ls hP hD hS hl
  refine lv_isub hx hb d ?_
  rw [iI_sub]
  exact k H locs ls hP hD hS hl
theorem r_imul {G : zG} {cc : ByteArray} {own : String} {ret : Option FieldType} {nL fr lc : Nat} (C : zC G cc own ret nL fr lc) {M : zM} {lo : List (Option Value)} {st : List Value} {pc : Nat} {a b : Int} (d : decode cc pc = .ok (.imul, 1)) (k : VJ G M (pc + 1) lo (.int (iI (a * b)) :: st)) : VJ G M pc lo (.int (iI b) :: .int (iI a) :: st) := by
  obtain ⟨sd, E, P, l, p, e, R, s, m, args, below, meth, c⟩ := G
  obtain ⟨hx, hb, hr, hml, hown, hts, hK, hN, hlk, hR⟩ := C
  intro H locs ls hP hD hS hl
  refine lv_imul hx hb d ?_
  rw [iI_mul]
  exact k H locs ls hP hD hS hl
theorem r_idiv {G : zG} {cc : ByteArray} {own : String} {ret : Option FieldType} {nL fr lc : Nat} (C : zC G cc own ret nL fr lc) {M : zM} {lo : List (Option Value)} {st : List Value} {pc : Nat} {a b : Int} (ha : 0 ≤ a ∧ a < 2147483648) (hb0 : 0 < b ∧ b < 2147483648) (d : decode cc pc = .ok (.idiv, 1)) (k : VJ G M (pc + 1) lo (.int (iI (a / b)) :: st)) : VJ G M pc lo (.int (iI b) :: .int (iI a) :: st) := by
  obtain ⟨sd, E, P, l, p, e, R, s, m, args, below, meth, c⟩ := G
  obtain ⟨hx, hb, hr, hml, hown, hts, hK, hN, hlk, hR⟩ := C
  intro H locs ls hP hD hS hl
  refine lv_idiv hx hb d (by rw [← iI_0, iI_eq ⟨by omega, by omega⟩ ⟨by omega, by omega⟩]; omega) ?_
  rw [iI_div ha hb0]
  exact k H locs ls hP hD hS hl
theorem r_irem {G : zG} {cc : ByteArray} {own : String} {ret : Option FieldType} {nL fr lc : Nat} (C : zC G cc own ret nL fr lc) {M : zM} {lo : List (Option Value)} {st : List Value} {pc : Nat} {a b : Int} (ha : 0 ≤ a ∧ a < 2147483648) (hb0 : 0 < b ∧ b < 2147483648) (d : decode cc pc = .ok (.irem, 1)) (k : VJ G M (pc + 1) lo (.int (iI (a % b)) :: st)) : VJ G M pc lo (.int (iI b) :: .int (iI a) :: st) := by
  obtain ⟨sd, E, P, l, p, e, R, s, m, args, below, meth, c⟩ := G
  obtain ⟨hx, hb, hr, hml, hown, hts, hK, hN, hlk, hR⟩ := C
  intro H locs ls hP hD hS hl
  refine lv_irem hx hb d (by rw [← iI_0, iI_eq ⟨by omega, by omega⟩ ⟨by omega, by omega⟩]; omega) ?_
  rw [iI_rem ha hb0]
  exact k H locs ls hP hD hS hl
theorem r_ineg {G : zG} {cc : ByteArray} {own : String} {ret : Option FieldType} {nL fr lc : Nat} (C : zC G cc own ret nL fr lc) {M : zM} {lo : List (Option Value)} {st : List Value} {pc : Nat} {a : Int} (d : decode cc pc = .ok (.ineg, 1)) (k : VJ G M (pc + 1) lo (.int (iI (-a)) :: st)) : VJ G M pc lo (.int (iI a) :: st) := by
  obtain ⟨sd, E, P, l, p, e, R, s, m, args, below, meth, c⟩ := G
  obtain ⟨hx, hb, hr, hml, hown, hts, hK, hN, hlk, hR⟩ := C
  intro H locs ls hP hD hS hl
  refine lv_ineg hx hb d ?_
  rw [iI_neg]
  exact k H locs ls hP hD hS hl
theorem r_iand {G : zG} {cc : ByteArray} {own : String} {ret : Option FieldType} {nL fr lc : Nat} (C : zC G cc own ret nL fr lc) {M : zM} {lo : List (Option Value)} {st : List Value} {pc : Nat} {x y : Int32} {v : Int32} (hv : x &&& y = v) (d : decode cc pc = .ok (.iand, 1)) (k : VJ G M (pc + 1) lo (.int v :: st)) : VJ G M pc lo (.int y :: .int x :: st) := by
  obtain ⟨sd, E, P, l, p, e, R, s, m, args, below, meth, c⟩ := G
  obtain ⟨hx, hb, hr, hml, hown, hts, hK, hN, hlk, hR⟩ := C
  intro H locs ls hP hD hS hl
  refine lv_iand hx hb d ?_
  rw [hv]
  exact k H locs ls hP hD hS hl
theorem r_ior {G : zG} {cc : ByteArray} {own : String} {ret : Option FieldType} {nL fr lc : Nat} (C : zC G cc own ret nL fr lc) {M : zM} {lo : List (Option Value)} {st : List Value} {pc : Nat} {x y : Int32} {v : Int32} (hv : x ||| y = v) (d : decode cc pc = .ok (.ior, 1)) (k : VJ G M (pc + 1) lo (.int v :: st)) : VJ G M pc lo (.int y :: .int x :: st) := by
  obtain ⟨sd, E, P, l, p, e, R, s, m, args, below, meth, c⟩ := G
  obtain ⟨hx, hb, hr, hml, hown, hts, hK, hN, hlk, hR⟩ := C
  intro H locs ls hP hD hS hl
  refine lv_ior hx hb d ?_
  rw [hv]
  exact k H locs ls hP hD hS hl
theorem r_ixor {G : zG} {cc : ByteArray} {own : String} {ret : Option FieldType} {nL fr lc : Nat} (C : zC G cc own ret nL fr lc) {M : zM} {lo : List (Option Value)} {st : List Value} {pc : Nat} {x y : Int32} {v : Int32} (hv : x ^^^ y = v) (d : decode cc pc = .ok (.ixor, 1)) (k : VJ G M (pc + 1) lo (.int v :: st)) : VJ G M pc lo (.int y :: .int x :: st) := by
  obtain ⟨sd, E, P, l, p, e, R, s, m, args, below, meth, c⟩ := G
  obtain ⟨hx, hb, hr, hml, hown, hts, hK, hN, hlk, hR⟩ := C
  intro H locs ls hP hD hS hl
  refine lv_ixor hx hb d ?_
  rw [hv]
  exact k H locs ls hP hD hS hl
theorem r_ishl {G : zG} {cc : ByteArray} {own : String} {ret : Option FieldType} {nL fr lc : Nat} (C : zC G cc own ret nL fr lc) {M : zM} {lo : List (Option Value)} {st : List Value} {pc : Nat} {x y : Int32} {v : Int32} (hv : x <<< (y &&& 31) = v) (d : decode cc pc = .ok (.ishl, 1)) (k : VJ G M (pc + 1) lo (.int v :: st)) : VJ G M pc lo (.int y :: .int x :: st) := by
  obtain ⟨sd, E, P, l, p, e, R, s, m, args, below, meth, c⟩ := G
  obtain ⟨hx, hb, hr, hml, hown, hts, hK, hN, hlk, hR⟩ := C
  intro H locs ls hP hD hS hl
  refine lv_ishl hx hb d ?_
  rw [hv]
  exact k H locs ls hP hD hS hl
theorem r_ishr {G : zG} {cc : ByteArray} {own : String} {ret : Option FieldType} {nL fr lc : Nat} (C : zC G cc own ret nL fr lc) {M : zM} {lo : List (Option Value)} {st : List Value} {pc : Nat} {x y : Int32} {v : Int32} (hv : x >>> (y &&& 31) = v) (d : decode cc pc = .ok (.ishr, 1)) (k : VJ G M (pc + 1) lo (.int v :: st)) : VJ G M pc lo (.int y :: .int x :: st) := by
  obtain ⟨sd, E, P, l, p, e, R, s, m, args, below, meth, c⟩ := G
  obtain ⟨hx, hb, hr, hml, hown, hts, hK, hN, hlk, hR⟩ := C
  intro H locs ls hP hD hS hl
  refine lv_ishr hx hb d ?_
  rw [hv]
  exact k H locs ls hP hD hS hl
theorem r_iushr {G : zG} {cc : ByteArray} {own : String} {ret : Option FieldType} {nL fr lc : Nat} (C : zC G cc own ret nL fr lc) {M : zM} {lo : List (Option Value)} {st : List Value} {pc : Nat} {x y v : Int32} (hv : (x.toUInt32 >>> (y.toUInt32 &&& Int32.toUInt32 31)).toInt32 = v) (d : decode cc pc = .ok (.iushr, 1)) (k : VJ G M (pc + 1) lo (.int v :: st)) : VJ G M pc lo (.int y :: .int x :: st) := by
  obtain ⟨sd, E, P, l, p, e, R, s, m, args, below, meth, c⟩ := G
  obtain ⟨hx, hb, hr, hml, hown, hts, hK, hN, hlk, hR⟩ := C
  intro H locs ls hP hD hS hl
  refine lv_iushr hx hb d hv ?_
  exact k H locs ls hP hD hS hl
theorem r_iaddR {G : zG} {cc : ByteArray} {own : String} {ret : Option FieldType} {nL fr lc : Nat} (C : zC G cc own ret nL fr lc) {M : zM} {lo : List (Option Value)} {st : List Value} {pc : Nat} {x y v : Int32} (hv : x + y = v) (d : decode cc pc = .ok (.iadd, 1)) (k : VJ G M (pc + 1) lo (.int v :: st)) : VJ G M pc lo (.int y :: .int x :: st) := by
  obtain ⟨sd, E, P, l, p, e, R, s, m, args, below, meth, c⟩ := G
  obtain ⟨hx, hb, hr, hml, hown, hts, hK, hN, hlk, hR⟩ := C
  intro H locs ls hP hD hS hl
  refine lv_iadd hx hb d ?_
  rw [hv]
  exact k H locs ls hP hD hS hl
theorem r_isubR {G : zG} {cc : ByteArray} {own : String} {ret : Option FieldType} {nL fr lc : Nat} (C : zC G cc own ret nL fr lc) {M : zM} {lo : List (Option Value)} {st : List Value} {pc : Nat} {x y v : Int32} (hv : x - y = v) (d : decode cc pc = .ok (.isub, 1)) (k : VJ G M (pc + 1) lo (.int v :: st)) : VJ G M pc lo (.int y :: .int x :: st) := by
  obtain ⟨sd, E, P, l, p, e, R, s, m, args, below, meth, c⟩ := G
  obtain ⟨hx, hb, hr, hml, hown, hts, hK, hN, hlk, hR⟩ := C
  intro H locs ls hP hD hS hl
  refine lv_isub hx hb d ?_
  rw [hv]
  exact k H locs ls hP hD hS hl
theorem r_imulR {G : zG} {cc : ByteArray} {own : String} {ret : Option FieldType} {nL fr lc : Nat} (C : zC G cc own ret nL fr lc) {M : zM} {lo : List (Option Value)} {st : List Value} {pc : Nat} {x y v : Int32} (hv : x * y = v) (d : decode cc pc = .ok (.imul, 1)) (k : VJ G M (pc + 1) lo (.int v :: st)) : VJ G M pc lo (.int y :: .int x :: st) := by
  obtain ⟨sd, E, P, l, p, e, R, s, m, args, below, meth, c⟩ := G
  obtain ⟨hx, hb, hr, hml, hown, hts, hK, hN, hlk, hR⟩ := C
  intro H locs ls hP hD hS hl
  refine lv_imul hx hb d ?_
  rw [hv]
  exact k H locs ls hP hD hS hl
theorem r_ladd {G : zG} {cc : ByteArray} {own : String} {ret : Option FieldType} {nL fr lc : Nat} (C : zC G cc own ret nL fr lc) {M : zM} {lo : List (Option Value)} {st : List Value} {pc : Nat} {x y : Int64} (d : decode cc pc = .ok (.ladd, 1)) (k : VJ G M (pc + 1) lo (.long (x + y) :: st)) : VJ G M pc lo (.long y :: .long x :: st) := by
  obtain ⟨sd, E, P, l, p, e, R, s, m, args, below, meth, c⟩ := G
  obtain ⟨hx, hb, hr, hml, hown, hts, hK, hN, hlk, hR⟩ := C
  intro H locs ls hP hD hS hl
  refine lv_ladd hx hb d ?_
  exact k H locs ls hP hD hS hl
theorem r_lsub {G : zG} {cc : ByteArray} {own : String} {ret : Option FieldType} {nL fr lc : Nat} (C : zC G cc own ret nL fr lc) {M : zM} {lo : List (Option Value)} {st : List Value} {pc : Nat} {x y : Int64} (d : decode cc pc = .ok (.lsub, 1)) (k : VJ G M (pc + 1) lo (.long (x - y) :: st)) : VJ G M pc lo (.long y :: .long x :: st) := by
  obtain ⟨sd, E, P, l, p, e, R, s, m, args, below, meth, c⟩ := G
  obtain ⟨hx, hb, hr, hml, hown, hts, hK, hN, hlk, hR⟩ := C
  intro H locs ls hP hD hS hl
  refine lv_lsub hx hb d ?_
  exact k H locs ls hP hD hS hl
theorem r_lmul {G : zG} {cc : ByteArray} {own : String} {ret : Option FieldType} {nL fr lc : Nat} (C : zC G cc own ret nL fr lc) {M : zM} {lo : List (Option Value)} {st : List Value} {pc : Nat} {x y : Int64} (d : decode cc pc = .ok (.lmul, 1)) (k : VJ G M (pc + 1) lo (.long (x * y) :: st)) : VJ G M pc lo (.long y :: .long x :: st) := by
  obtain ⟨sd, E, P, l, p, e, R, s, m, args, below, meth, c⟩ := G
  obtain ⟨hx, hb, hr, hml, hown, hts, hK, hN, hlk, hR⟩ := C
  intro H locs ls hP hD hS hl
  refine lv_lmul hx hb d ?_
  exact k H locs ls hP hD hS hl
theorem r_lxor {G : zG} {cc : ByteArray} {own : String} {ret : Option FieldType} {nL fr lc : Nat} (C : zC G cc own ret nL fr lc) {M : zM} {lo : List (Option Value)} {st : List Value} {pc : Nat} {x y : Int64} (d : decode cc pc = .ok (.lxor, 1)) (k : VJ G M (pc + 1) lo (.long (x ^^^ y) :: st)) : VJ G M pc lo (.long y :: .long x :: st) := by
  obtain ⟨sd, E, P, l, p, e, R, s, m, args, below, meth, c⟩ := G
  obtain ⟨hx, hb, hr, hml, hown, hts, hK, hN, hlk, hR⟩ := C
  intro H locs ls hP hD hS hl
  refine lv_lxor hx hb d ?_
  exact k H locs ls hP hD hS hl
theorem r_ldiv {G : zG} {cc : ByteArray} {own : String} {ret : Option FieldType} {nL fr lc : Nat} (C : zC G cc own ret nL fr lc) {M : zM} {lo : List (Option Value)} {st : List Value} {pc : Nat} {x y : Int64} (hy : ¬ y = 0) (d : decode cc pc = .ok (.ldiv, 1)) (k : VJ G M (pc + 1) lo (.long (x / y) :: st)) : VJ G M pc lo (.long y :: .long x :: st) := by
  obtain ⟨sd, E, P, l, p, e, R, s, m, args, below, meth, c⟩ := G
  obtain ⟨hx, hb, hr, hml, hown, hts, hK, hN, hlk, hR⟩ := C
  intro H locs ls hP hD hS hl
  refine lv_ldiv hx hb d hy ?_
  exact k H locs ls hP hD hS hl
theorem r_lrem {G : zG} {cc : ByteArray} {own : String} {ret : Option FieldType} {nL fr lc : Nat} (C : zC G cc own ret nL fr lc) {M : zM} {lo : List (Option Value)} {st : List Value} {pc : Nat} {x y : Int64} (hy : ¬ y = 0) (d : decode cc pc = .ok (.lrem, 1)) (k : VJ G M (pc + 1) lo (.long (x - x / y * y) :: st)) : VJ G M pc lo (.long y :: .long x :: st) := by
  obtain ⟨sd, E, P, l, p, e, R, s, m, args, below, meth, c⟩ := G
  obtain ⟨hx, hb, hr, hml, hown, hts, hK, hN, hlk, hR⟩ := C
  intro H locs ls hP hD hS hl
  refine lv_lrem hx hb d hy ?_
  exact k H locs ls hP hD hS hl
theorem r_lneg {G : zG} {cc : ByteArray} {own : String} {ret : Option FieldType} {nL fr lc : Nat} (C : zC G cc own ret nL fr lc) {M : zM} {lo : List (Option Value)} {st : List Value} {pc : Nat} {x v : Int64} (hv : -x = v) (d : decode cc pc = .ok (.lneg, 1)) (k : VJ G M (pc + 1) lo (.long v :: st)) : VJ G M pc lo (.long x :: st) := by
  obtain ⟨sd, E, P, l, p, e, R, s, m, args, below, meth, c⟩ := G
  obtain ⟨hx, hb, hr, hml, hown, hts, hK, hN, hlk, hR⟩ := C
  intro H locs ls hP hD hS hl
  refine lv_lneg hx hb d ?_
  rw [hv]
  exact k H locs ls hP hD hS hl
theorem r_i2l {G : zG} {cc : ByteArray} {own : String} {ret : Option FieldType} {nL fr lc : Nat} (C : zC G cc own ret nL fr lc) {M : zM} {lo : List (Option Value)} {st : List Value} {pc : Nat} {a : Int} (h : -2147483648 ≤ a ∧ a < 2147483648) (d : decode cc pc = .ok (.i2l, 1)) (k : VJ G M (pc + 1) lo (.long (lI a) :: st)) : VJ G M pc lo (.int (iI a) :: st) := by
  obtain ⟨sd, E, P, l, p, e, R, s, m, args, below, meth, c⟩ := G
  obtain ⟨hx, hb, hr, hml, hown, hts, hK, hN, hlk, hR⟩ := C
  intro H locs ls hP hD hS hl
  refine lv_i2l hx hb d (iI_l h) ?_
  exact k H locs ls hP hD hS hl
theorem r_dup {G : zG} {cc : ByteArray} {own : String} {ret : Option FieldType} {nL fr lc : Nat} (C : zC G cc own ret nL fr lc) {M : zM} {lo : List (Option Value)} {st : List Value} {pc : Nat} {v : Value} (hv : v.category = 1) (d : decode cc pc = .ok (.dup, 1)) (k : VJ G M (pc + 1) lo (v :: v :: st)) : VJ G M pc lo (v :: st) := by
  obtain ⟨sd, E, P, l, p, e, R, s, m, args, below, meth, c⟩ := G
  obtain ⟨hx, hb, hr, hml, hown, hts, hK, hN, hlk, hR⟩ := C
  intro H locs ls hP hD hS hl
  refine lv_dup hx hb d hv ?_
  exact k H locs ls hP hD hS hl
theorem r_pop {G : zG} {cc : ByteArray} {own : String} {ret : Option FieldType} {nL fr lc : Nat} (C : zC G cc own ret nL fr lc) {M : zM} {lo : List (Option Value)} {st : List Value} {pc : Nat} {v : Value} (hv : v.category = 1) (d : decode cc pc = .ok (.pop, 1)) (k : VJ G M (pc + 1) lo (st)) : VJ G M pc lo (v :: st) := by
  obtain ⟨sd, E, P, l, p, e, R, s, m, args, below, meth, c⟩ := G
  obtain ⟨hx, hb, hr, hml, hown, hts, hK, hN, hlk, hR⟩ := C
  intro H locs ls hP hD hS hl
  refine lv_pop hx hb d hv ?_
  exact k H locs ls hP hD hS hl
theorem r_dup2 {G : zG} {cc : ByteArray} {own : String} {ret : Option FieldType} {nL fr lc : Nat} (C : zC G cc own ret nL fr lc) {M : zM} {lo : List (Option Value)} {st : List Value} {pc : Nat} {v w : Value} (hv : v.category = 1) (hw : w.category = 1) (d : decode cc pc = .ok (.dup2, 1)) (k : VJ G M (pc + 1) lo (v :: w :: v :: w :: st)) : VJ G M pc lo (v :: w :: st) := by
  obtain ⟨sd, E, P, l, p, e, R, s, m, args, below, meth, c⟩ := G
  obtain ⟨hx, hb, hr, hml, hown, hts, hK, hN, hlk, hR⟩ := C
  intro H locs ls hP hD hS hl
  refine lv_dup2_11 hx hb d hv hw ?_
  exact k H locs ls hP hD hS hl
theorem r_topi {G : zG} {M : zM} {pc : Nat} {lo : List (Option Value)} {st : List Value} {x y : Int32} (h : x = y) (k : VJ G M pc lo (.int y :: st)) : VJ G M pc lo (.int x :: st) := by
  rw [h]
  exact k
theorem r_topl {G : zG} {M : zM} {pc : Nat} {lo : List (Option Value)} {st : List Value} {x y : Int64} (h : x = y) (k : VJ G M pc lo (.long y :: st)) : VJ G M pc lo (.long x :: st) := by
  rw [h]
  exact k
theorem r_topZ {G : zG} {M : zM} {pc : Nat} {lo : List (Option Value)} {st : List Value} {a b : Int} (h : a = b) (k : VJ G M pc lo (.int (iI b) :: st)) : VJ G M pc lo (.int (iI a) :: st) := by
  rw [h]
  exact k
theorem r_mem {G : zG} {M M2 : zM} {pc : Nat} {lo : List (Option Value)} {st : List Value} (h : M = M2) (k : VJ G M2 pc lo st) : VJ G M pc lo st := by
  rw [h]
  exact k
def lo_le : List (Option Value) → List (Option Value) → Prop
  | [], [] => True
  | a :: l, b :: r => (b = none ∨ a = b) ∧ lo_le l r
  | _, _ => False
theorem lo_le_at : ∀ {l r : List (Option Value)}, lo_le l r → l.length = r.length ∧ ∀ (i : Nat) (v : Value), r[i]? = some (some v) → l[i]? = some (some v)
  | [], [], _ => ⟨rfl, fun i v h => by simp at h⟩
  | [], _ :: _, h => h.elim
  | _ :: _, [], h => h.elim
  | a :: l, b :: r, h => by
    obtain ⟨h1, h2⟩ := h
    obtain ⟨e, f⟩ := lo_le_at h2
    refine ⟨by simp [e], fun i v hi => ?_⟩
    match i, hi with
    | 0, hi =>
      rcases h1 with h1 | h1
      · rw [h1] at hi; cases hi
      · rw [h1]; exact hi
    | i + 1, hi => exact f i v hi
theorem r_weak {G : zG} {M : zM} {pc : Nat} {lo lo2 : List (Option Value)} {st : List Value} (h : lo_le lo lo2) (k : VJ G M pc lo2 st) : VJ G M pc lo st := by
  obtain ⟨sd, E, P, l, p, e, R, s, m, args, below, meth, c⟩ := G
  intro H locs ls hP hD hS hl
  obtain ⟨e1, e2⟩ := lo_le_at h
  exact k H locs ls hP hD hS ⟨hl.1.trans e1, hl.2.1, fun i v hi => hl.2.2 i v (e2 i v hi)⟩
theorem r_ild0 {G : zG} {cc : ByteArray} {own : String} {ret : Option FieldType} {nL fr lc : Nat} (C : zC G cc own ret nL fr lc) {M : zM} {r : List (Option Value)} {st : List Value} {pc : Nat} {x : Int32} (d : decode cc pc = .ok (.iload_n 0, 1)) (k : VJ G M (pc + 1) (some (.int x) :: r) (.int x :: st)) : VJ G M pc (some (.int x) :: r) st := by
  obtain ⟨sd, E, P, l, p, e, R, s, m, args, below, meth, c⟩ := G
  obtain ⟨hx, hb, hr, hml, hown, hts, hK, hN, hlk, hR⟩ := C
  intro H locs ls hP hD hS hl
  refine lv_iload_n hx hb d rfl (hl.2.2 0 _ rfl) ?_
  exact k H locs ls hP hD hS hl
theorem r_ild1 {G : zG} {cc : ByteArray} {own : String} {ret : Option FieldType} {nL fr lc : Nat} (C : zC G cc own ret nL fr lc) {M : zM} {r : List (Option Value)} {st : List Value} {pc : Nat} {a0 : Option Value} {x : Int32} (d : decode cc pc = .ok (.iload_n 1, 1)) (k : VJ G M (pc + 1) (a0 :: some (.int x) :: r) (.int x :: st)) : VJ G M pc (a0 :: some (.int x) :: r) st := by
  obtain ⟨sd, E, P, l, p, e, R, s, m, args, below, meth, c⟩ := G
  obtain ⟨hx, hb, hr, hml, hown, hts, hK, hN, hlk, hR⟩ := C
  intro H locs ls hP hD hS hl
  refine lv_iload_n hx hb d rfl (hl.2.2 1 _ rfl) ?_
  exact k H locs ls hP hD hS hl
theorem r_ild2 {G : zG} {cc : ByteArray} {own : String} {ret : Option FieldType} {nL fr lc : Nat} (C : zC G cc own ret nL fr lc) {M : zM} {r : List (Option Value)} {st : List Value} {pc : Nat} {a0 a1 : Option Value} {x : Int32} (d : decode cc pc = .ok (.iload_n 2, 1)) (k : VJ G M (pc + 1) (a0 :: a1 :: some (.int x) :: r) (.int x :: st)) : VJ G M pc (a0 :: a1 :: some (.int x) :: r) st := by
  obtain ⟨sd, E, P, l, p, e, R, s, m, args, below, meth, c⟩ := G
  obtain ⟨hx, hb, hr, hml, hown, hts, hK, hN, hlk, hR⟩ := C
  intro H locs ls hP hD hS hl
  refine lv_iload_n hx hb d rfl (hl.2.2 2 _ rfl) ?_
  exact k H locs ls hP hD hS hl
theorem r_ild3 {G : zG} {cc : ByteArray} {own : String} {ret : Option FieldType} {nL fr lc : Nat} (C : zC G cc own ret nL fr lc) {M : zM} {r : List (Option Value)} {st : List Value} {pc : Nat} {a0 a1 a2 : Option Value} {x : Int32} (d : decode cc pc = .ok (.iload_n 3, 1)) (k : VJ G M (pc + 1) (a0 :: a1 :: a2 :: some (.int x) :: r) (.int x :: st)) : VJ G M pc (a0 :: a1 :: a2 :: some (.int x) :: r) st := by
  obtain ⟨sd, E, P, l, p, e, R, s, m, args, below, meth, c⟩ := G
  obtain ⟨hx, hb, hr, hml, hown, hts, hK, hN, hlk, hR⟩ := C
  intro H locs ls hP hD hS hl
  refine lv_iload_n hx hb d rfl (hl.2.2 3 _ rfl) ?_
  exact k H locs ls hP hD hS hl
theorem r_ild4 {G : zG} {cc : ByteArray} {own : String} {ret : Option FieldType} {nL fr lc : Nat} (C : zC G cc own ret nL fr lc) {M : zM} {r : List (Option Value)} {st : List Value} {pc : Nat} {a0 a1 a2 a3 : Option Value} {x : Int32} (d : decode cc pc = .ok (.iload 4, 2)) (k : VJ G M (pc + 2) (a0 :: a1 :: a2 :: a3 :: some (.int x) :: r) (.int x :: st)) : VJ G M pc (a0 :: a1 :: a2 :: a3 :: some (.int x) :: r) st := by
  obtain ⟨sd, E, P, l, p, e, R, s, m, args, below, meth, c⟩ := G
  obtain ⟨hx, hb, hr, hml, hown, hts, hK, hN, hlk, hR⟩ := C
  intro H locs ls hP hD hS hl
  refine lv_iload hx hb d (hl.2.2 4 _ rfl) ?_
  exact k H locs ls hP hD hS hl
theorem r_ild5 {G : zG} {cc : ByteArray} {own : String} {ret : Option FieldType} {nL fr lc : Nat} (C : zC G cc own ret nL fr lc) {M : zM} {r : List (Option Value)} {st : List Value} {pc : Nat} {a0 a1 a2 a3 a4 : Option Value} {x : Int32} (d : decode cc pc = .ok (.iload 5, 2)) (k : VJ G M (pc + 2) (a0 :: a1 :: a2 :: a3 :: a4 :: some (.int x) :: r) (.int x :: st)) : VJ G M pc (a0 :: a1 :: a2 :: a3 :: a4 :: some (.int x) :: r) st := by
  obtain ⟨sd, E, P, l, p, e, R, s, m, args, below, meth, c⟩ := G
  obtain ⟨hx, hb, hr, hml, hown, hts, hK, hN, hlk, hR⟩ := C
  intro H locs ls hP hD hS hl
  refine lv_iload hx hb d (hl.2.2 5 _ rfl) ?_
  exact k H locs ls hP hD hS hl
theorem r_ild6 {G : zG} {cc : ByteArray} {own : String} {ret : Option FieldType} {nL fr lc : Nat} (C : zC G cc own ret nL fr lc) {M : zM} {r : List (Option Value)} {st : List Value} {pc : Nat} {a0 a1 a2 a3 a4 a5 : Option Value} {x : Int32} (d : decode cc pc = .ok (.iload 6, 2)) (k : VJ G M (pc + 2) (a0 :: a1 :: a2 :: a3 :: a4 :: a5 :: some (.int x) :: r) (.int x :: st)) : VJ G M pc (a0 :: a1 :: a2 :: a3 :: a4 :: a5 :: some (.int x) :: r) st := by
  obtain ⟨sd, E, P, l, p, e, R, s, m, args, below, meth, c⟩ := G
  obtain ⟨hx, hb, hr, hml, hown, hts, hK, hN, hlk, hR⟩ := C
  intro H locs ls hP hD hS hl
  refine lv_iload hx hb d (hl.2.2 6 _ rfl) ?_
  exact k H locs ls hP hD hS hl
theorem r_ild7 {G : zG} {cc : ByteArray} {own : String} {ret : Option FieldType} {nL fr lc : Nat} (C : zC G cc own ret nL fr lc) {M : zM} {r : List (Option Value)} {st : List Value} {pc : Nat} {a0 a1 a2 a3 a4 a5 a6 : Option Value} {x : Int32} (d : decode cc pc = .ok (.iload 7, 2)) (k : VJ G M (pc + 2) (a0 :: a1 :: a2 :: a3 :: a4 :: a5 :: a6 :: some (.int x) :: r) (.int x :: st)) : VJ G M pc (a0 :: a1 :: a2 :: a3 :: a4 :: a5 :: a6 :: some (.int x) :: r) st := by
  obtain ⟨sd, E, P, l, p, e, R, s, m, args, below, meth, c⟩ := G
  obtain ⟨hx, hb, hr, hml, hown, hts, hK, hN, hlk, hR⟩ := C
  intro H locs ls hP hD hS hl
  refine lv_iload hx hb d (hl.2.2 7 _ rfl) ?_
  exact k H locs ls hP hD hS hl
theorem r_ild8 {G : zG} {cc : ByteArray} {own : String} {ret : Option FieldType} {nL fr lc : Nat} (C : zC G cc own ret nL fr lc) {M : zM} {r : List (Option Value)} {st : List Value} {pc : Nat} {a0 a1 a2 a3 a4 a5 a6 a7 : Option Value} {x : Int32} (d : decode cc pc = .ok (.iload 8, 2)) (k : VJ G M (pc + 2) (a0 :: a1 :: a2 :: a3 :: a4 :: a5 :: a6 :: a7 :: some (.int x) :: r) (.int x :: st)) : VJ G M pc (a0 :: a1 :: a2 :: a3 :: a4 :: a5 :: a6 :: a7 :: some (.int x) :: r) st := by
  obtain ⟨sd, E, P, l, p, e, R, s, m, args, below, meth, c⟩ := G
  obtain ⟨hx, hb, hr, hml, hown, hts, hK, hN, hlk, hR⟩ := C
  intro H locs ls hP hD hS hl
  refine lv_iload hx hb d (hl.2.2 8 _ rfl) ?_
  exact k H locs ls hP hD hS hl
theorem r_ild9 {G : zG} {cc : ByteArray} {own : String} {ret : Option FieldType} {nL fr lc : Nat} (C : zC G cc own ret nL fr lc) {M : zM} {r : List (Option Value)} {st : List Value} {pc : Nat} {a0 a1 a2 a3 a4 a5 a6 a7 a8 : Option Value} {x : Int32} (d : decode cc pc = .ok (.iload 9, 2)) (k : VJ G M (pc + 2) (a0 :: a1 :: a2 :: a3 :: a4 :: a5 :: a6 :: a7 :: a8 :: some (.int x) :: r) (.int x :: st)) : VJ G M pc (a0 :: a1 :: a2 :: a3 :: a4 :: a5 :: a6 :: a7 :: a8 :: some (.int x) :: r) st := by
  obtain ⟨sd, E, P, l, p, e, R, s, m, args, below, meth, c⟩ := G
  obtain ⟨hx, hb, hr, hml, hown, hts, hK, hN, hlk, hR⟩ := C
  intro H locs ls hP hD hS hl
  refine lv_iload hx hb d (hl.2.2 9 _ rfl) ?_
  exact k H locs ls hP hD hS hl
theorem r_ild10 {G : zG} {cc : ByteArray} {own : String} {ret : Option FieldType} {nL fr lc : Nat} (C : zC G cc own ret nL fr lc) {M : zM} {r : List (Option Value)} {st : List Value} {pc : Nat} {a0 a1 a2 a3 a4 a5 a6 a7 a8 a9 : Option Value} {x : Int32} (d : decode cc pc = .ok (.iload 10, 2)) (k : VJ G M (pc + 2) (a0 :: a1 :: a2 :: a3 :: a4 :: a5 :: a6 :: a7 :: a8 :: a9 :: some (.int x) :: r) (.int x :: st)) : VJ G M pc (a0 :: a1 :: a2 :: a3 :: a4 :: a5 :: a6 :: a7 :: a8 :: a9 :: some (.int x) :: r) st := by
  obtain ⟨sd, E, P, l, p, e, R, s, m, args, below, meth, c⟩ := G
  obtain ⟨hx, hb, hr, hml, hown, hts, hK, hN, hlk, hR⟩ := C
  intro H locs ls hP hD hS hl
  refine lv_iload hx hb d (hl.2.2 10 _ rfl) ?_
  exact k H locs ls hP hD hS hl
theorem r_ild11 {G : zG} {cc : ByteArray} {own : String} {ret : Option FieldType} {nL fr lc : Nat} (C : zC G cc own ret nL fr lc) {M : zM} {r : List (Option Value)} {st : List Value} {pc : Nat} {a0 a1 a2 a3 a4 a5 a6 a7 a8 a9 a10 : Option Value} {x : Int32} (d : decode cc pc = .ok (.iload 11, 2)) (k : VJ G M (pc + 2) (a0 :: a1 :: a2 :: a3 :: a4 :: a5 :: a6 :: a7 :: a8 :: a9 :: a10 :: some (.int x) :: r) (.int x :: st)) : VJ G M pc (a0 :: a1 :: a2 :: a3 :: a4 :: a5 :: a6 :: a7 :: a8 :: a9 :: a10 :: some (.int x) :: r) st := by
  obtain ⟨sd, E, P, l, p, e, R, s, m, args, below, meth, c⟩ := G
  obtain ⟨hx, hb, hr, hml, hown, hts, hK, hN, hlk, hR⟩ := C
  intro H locs ls hP hD hS hl
  refine lv_iload hx hb d (hl.2.2 11 _ rfl) ?_
  exact k H locs ls hP hD hS hl
theorem r_ild12 {G : zG} {cc : ByteArray} {own : String} {ret : Option FieldType} {nL fr lc : Nat} (C : zC G cc own ret nL fr lc) {M : zM} {r : List (Option Value)} {st : List Value} {pc : Nat} {a0 a1 a2 a3 a4 a5 a6 a7 a8 a9 a10 a11 : Option Value} {x : Int32} (d : decode cc pc = .ok (.iload 12, 2)) (k : VJ G M (pc + 2) (a0 :: a1 :: a2 :: a3 :: a4 :: a5 :: a6 :: a7 :: a8 :: a9 :: a10 :: a11 :: some (.int x) :: r) (.int x :: st)) : VJ G M pc (a0 :: a1 :: a2 :: a3 :: a4 :: a5 :: a6 :: a7 :: a8 :: a9 :: a10 :: a11 :: some (.int x) :: r) st := by
  obtain ⟨sd, E, P, l, p, e, R, s, m, args, below, meth, c⟩ := G
  obtain ⟨hx, hb, hr, hml, hown, hts, hK, hN, hlk, hR⟩ := C
  intro H locs ls hP hD hS hl
  refine lv_iload hx hb d (hl.2.2 12 _ rfl) ?_
  exact k H locs ls hP hD hS hl
theorem r_lld0 {G : zG} {cc : ByteArray} {own : String} {ret : Option FieldType} {nL fr lc : Nat} (C : zC G cc own ret nL fr lc) {M : zM} {r : List (Option Value)} {st : List Value} {pc : Nat} {x : Int64} (d : decode cc pc = .ok (.lload_n 0, 1)) (k : VJ G M (pc + 1) (some (.long x) :: r) (.long x :: st)) : VJ G M pc (some (.long x) :: r) st := by
  obtain ⟨sd, E, P, l, p, e, R, s, m, args, below, meth, c⟩ := G
  obtain ⟨hx, hb, hr, hml, hown, hts, hK, hN, hlk, hR⟩ := C
  intro H locs ls hP hD hS hl
  refine lv_lload_n hx hb d rfl (hl.2.2 0 _ rfl) ?_
  exact k H locs ls hP hD hS hl
theorem r_lld1 {G : zG} {cc : ByteArray} {own : String} {ret : Option FieldType} {nL fr lc : Nat} (C : zC G cc own ret nL fr lc) {M : zM} {r : List (Option Value)} {st : List Value} {pc : Nat} {a0 : Option Value} {x : Int64} (d : decode cc pc = .ok (.lload_n 1, 1)) (k : VJ G M (pc + 1) (a0 :: some (.long x) :: r) (.long x :: st)) : VJ G M pc (a0 :: some (.long x) :: r) st := by
  obtain ⟨sd, E, P, l, p, e, R, s, m, args, below, meth, c⟩ := G
  obtain ⟨hx, hb, hr, hml, hown, hts, hK, hN, hlk, hR⟩ := C
  intro H locs ls hP hD hS hl
  refine lv_lload_n hx hb d rfl (hl.2.2 1 _ rfl) ?_
  exact k H locs ls hP hD hS hl
theorem r_lld2 {G : zG} {cc : ByteArray} {own : String} {ret : Option FieldType} {nL fr lc : Nat} (C : zC G cc own ret nL fr lc) {M : zM} {r : List (Option Value)} {st : List Value} {pc : Nat} {a0 a1 : Option Value} {x : Int64} (d : decode cc pc = .ok (.lload_n 2, 1)) (k : VJ G M (pc + 1) (a0 :: a1 :: some (.long x) :: r) (.long x :: st)) : VJ G M pc (a0 :: a1 :: some (.long x) :: r) st := by
  obtain ⟨sd, E, P, l, p, e, R, s, m, args, below, meth, c⟩ := G
  obtain ⟨hx, hb, hr, hml, hown, hts, hK, hN, hlk, hR⟩ := C
  intro H locs ls hP hD hS hl
  refine lv_lload_n hx hb d rfl (hl.2.2 2 _ rfl) ?_
  exact k H locs ls hP hD hS hl
theorem r_lld3 {G : zG} {cc : ByteArray} {own : String} {ret : Option FieldType} {nL fr lc : Nat} (C : zC G cc own ret nL fr lc) {M : zM} {r : List (Option Value)} {st : List Value} {pc : Nat} {a0 a1 a2 : Option Value} {x : Int64} (d : decode cc pc = .ok (.lload_n 3, 1)) (k : VJ G M (pc + 1) (a0 :: a1 :: a2 :: some (.long x) :: r) (.long x :: st)) : VJ G M pc (a0 :: a1 :: a2 :: some (.long x) :: r) st := by
  obtain ⟨sd, E, P, l, p, e, R, s, m, args, below, meth, c⟩ := G
  obtain ⟨hx, hb, hr, hml, hown, hts, hK, hN, hlk, hR⟩ := C
  intro H locs ls hP hD hS hl
  refine lv_lload_n hx hb d rfl (hl.2.2 3 _ rfl) ?_
  exact k H locs ls hP hD hS hl
theorem r_lld4 {G : zG} {cc : ByteArray} {own : String} {ret : Option FieldType} {nL fr lc : Nat} (C : zC G cc own ret nL fr lc) {M : zM} {r : List (Option Value)} {st : List Value} {pc : Nat} {a0 a1 a2 a3 : Option Value} {x : Int64} (d : decode cc pc = .ok (.lload 4, 2)) (k : VJ G M (pc + 2) (a0 :: a1 :: a2 :: a3 :: some (.long x) :: r) (.long x :: st)) : VJ G M pc (a0 :: a1 :: a2 :: a3 :: some (.long x) :: r) st := by
  obtain ⟨sd, E, P, l, p, e, R, s, m, args, below, meth, c⟩ := G
  obtain ⟨hx, hb, hr, hml, hown, hts, hK, hN, hlk, hR⟩ := C
  intro H locs ls hP hD hS hl
  refine lv_lload hx hb d (hl.2.2 4 _ rfl) ?_
  exact k H locs ls hP hD hS hl
theorem r_lld5 {G : zG} {cc : ByteArray} {own : String} {ret : Option FieldType} {nL fr lc : Nat} (C : zC G cc own ret nL fr lc) {M : zM} {r : List (Option Value)} {st : List Value} {pc : Nat} {a0 a1 a2 a3 a4 : Option Value} {x : Int64} (d : decode cc pc = .ok (.lload 5, 2)) (k : VJ G M (pc + 2) (a0 :: a1 :: a2 :: a3 :: a4 :: some (.long x) :: r) (.long x :: st)) : VJ G M pc (a0 :: a1 :: a2 :: a3 :: a4 :: some (.long x) :: r) st := by
  obtain ⟨sd, E, P, l, p, e, R, s, m, args, below, meth, c⟩ := G
  obtain ⟨hx, hb, hr, hml, hown, hts, hK, hN, hlk, hR⟩ := C
  intro H locs ls hP hD hS hl
  refine lv_lload hx hb d (hl.2.2 5 _ rfl) ?_
  exact k H locs ls hP hD hS hl
theorem r_lld6 {G : zG} {cc : ByteArray} {own : String} {ret : Option FieldType} {nL fr lc : Nat} (C : zC G cc own ret nL fr lc) {M : zM} {r : List (Option Value)} {st : List Value} {pc : Nat} {a0 a1 a2 a3 a4 a5 : Option Value} {x : Int64} (d : decode cc pc = .ok (.lload 6, 2)) (k : VJ G M (pc + 2) (a0 :: a1 :: a2 :: a3 :: a4 :: a5 :: some (.long x) :: r) (.long x :: st)) : VJ G M pc (a0 :: a1 :: a2 :: a3 :: a4 :: a5 :: some (.long x) :: r) st := by
  obtain ⟨sd, E, P, l, p, e, R, s, m, args, below, meth, c⟩ := G
  obtain ⟨hx, hb, hr, hml, hown, hts, hK, hN, hlk, hR⟩ := C
  intro H locs ls hP hD hS hl
  refine lv_lload hx hb d (hl.2.2 6 _ rfl) ?_
  exact k H locs ls hP hD hS hl
theorem r_lld7 {G : zG} {cc : ByteArray} {own : String} {ret : Option FieldType} {nL fr lc : Nat} (C : zC G cc own ret nL fr lc) {M : zM} {r : List (Option Value)} {st : List Value} {pc : Nat} {a0 a1 a2 a3 a4 a5 a6 : Option Value} {x : Int64} (d : decode cc pc = .ok (.lload 7, 2)) (k : VJ G M (pc + 2) (a0 :: a1 :: a2 :: a3 :: a4 :: a5 :: a6 :: some (.long x) :: r) (.long x :: st)) : VJ G M pc (a0 :: a1 :: a2 :: a3 :: a4 :: a5 :: a6 :: some (.long x) :: r) st := by
  obtain ⟨sd, E, P, l, p, e, R, s, m, args, below, meth, c⟩ := G
  obtain ⟨hx, hb, hr, hml, hown, hts, hK, hN, hlk, hR⟩ := C
  intro H locs ls hP hD hS hl
  refine lv_lload hx hb d (hl.2.2 7 _ rfl) ?_
  exact k H locs ls hP hD hS hl
theorem r_lld8 {G : zG} {cc : ByteArray} {own : String} {ret : Option FieldType} {nL fr lc : Nat} (C : zC G cc own ret nL fr lc) {M : zM} {r : List (Option Value)} {st : List Value} {pc : Nat} {a0 a1 a2 a3 a4 a5 a6 a7 : Option Value} {x : Int64} (d : decode cc pc = .ok (.lload 8, 2)) (k : VJ G M (pc + 2) (a0 :: a1 :: a2 :: a3 :: a4 :: a5 :: a6 :: a7 :: some (.long x) :: r) (.long x :: st)) : VJ G M pc (a0 :: a1 :: a2 :: a3 :: a4 :: a5 :: a6 :: a7 :: some (.long x) :: r) st := by
  obtain ⟨sd, E, P, l, p, e, R, s, m, args, below, meth, c⟩ := G
  obtain ⟨hx, hb, hr, hml, hown, hts, hK, hN, hlk, hR⟩ := C
  intro H locs ls hP hD hS hl
  refine lv_lload hx hb d (hl.2.2 8 _ rfl) ?_
  exact k H locs ls hP hD hS hl
theorem r_lld9 {G : zG} {cc : ByteArray} {own : String} {ret : Option FieldType} {nL fr lc : Nat} (C : zC G cc own ret nL fr lc) {M : zM} {r : List (Option Value)} {st : List Value} {pc : Nat} {a0 a1 a2 a3 a4 a5 a6 a7 a8 : Option Value} {x : Int64} (d : decode cc pc = .ok (.lload 9, 2)) (k : VJ G M (pc + 2) (a0 :: a1 :: a2 :: a3 :: a4 :: a5 :: a6 :: a7 :: a8 :: some (.long x) :: r) (.long x :: st)) : VJ G M pc (a0 :: a1 :: a2 :: a3 :: a4 :: a5 :: a6 :: a7 :: a8 :: some (.long x) :: r) st := by
  obtain ⟨sd, E, P, l, p, e, R, s, m, args, below, meth, c⟩ := G
  obtain ⟨hx, hb, hr, hml, hown, hts, hK, hN, hlk, hR⟩ := C
  intro H locs ls hP hD hS hl
  refine lv_lload hx hb d (hl.2.2 9 _ rfl) ?_
  exact k H locs ls hP hD hS hl
theorem r_lld10 {G : zG} {cc : ByteArray} {own : String} {ret : Option FieldType} {nL fr lc : Nat} (C : zC G cc own ret nL fr lc) {M : zM} {r : List (Option Value)} {st : List Value} {pc : Nat} {a0 a1 a2 a3 a4 a5 a6 a7 a8 a9 : Option Value} {x : Int64} (d : decode cc pc = .ok (.lload 10, 2)) (k : VJ G M (pc + 2) (a0 :: a1 :: a2 :: a3 :: a4 :: a5 :: a6 :: a7 :: a8 :: a9 :: some (.long x) :: r) (.long x :: st)) : VJ G M pc (a0 :: a1 :: a2 :: a3 :: a4 :: a5 :: a6 :: a7 :: a8 :: a9 :: some (.long x) :: r) st := by
  obtain ⟨sd, E, P, l, p, e, R, s, m, args, below, meth, c⟩ := G
  obtain ⟨hx, hb, hr, hml, hown, hts, hK, hN, hlk, hR⟩ := C
  intro H locs ls hP hD hS hl
  refine lv_lload hx hb d (hl.2.2 10 _ rfl) ?_
  exact k H locs ls hP hD hS hl
theorem r_lld11 {G : zG} {cc : ByteArray} {own : String} {ret : Option FieldType} {nL fr lc : Nat} (C : zC G cc own ret nL fr lc) {M : zM} {r : List (Option Value)} {st : List Value} {pc : Nat} {a0 a1 a2 a3 a4 a5 a6 a7 a8 a9 a10 : Option Value} {x : Int64} (d : decode cc pc = .ok (.lload 11, 2)) (k : VJ G M (pc + 2) (a0 :: a1 :: a2 :: a3 :: a4 :: a5 :: a6 :: a7 :: a8 :: a9 :: a10 :: some (.long x) :: r) (.long x :: st)) : VJ G M pc (a0 :: a1 :: a2 :: a3 :: a4 :: a5 :: a6 :: a7 :: a8 :: a9 :: a10 :: some (.long x) :: r) st := by
  obtain ⟨sd, E, P, l, p, e, R, s, m, args, below, meth, c⟩ := G
  obtain ⟨hx, hb, hr, hml, hown, hts, hK, hN, hlk, hR⟩ := C
  intro H locs ls hP hD hS hl
  refine lv_lload hx hb d (hl.2.2 11 _ rfl) ?_
  exact k H locs ls hP hD hS hl
theorem r_lld12 {G : zG} {cc : ByteArray} {own : String} {ret : Option FieldType} {nL fr lc : Nat} (C : zC G cc own ret nL fr lc) {M : zM} {r : List (Option Value)} {st : List Value} {pc : Nat} {a0 a1 a2 a3 a4 a5 a6 a7 a8 a9 a10 a11 : Option Value} {x : Int64} (d : decode cc pc = .ok (.lload 12, 2)) (k : VJ G M (pc + 2) (a0 :: a1 :: a2 :: a3 :: a4 :: a5 :: a6 :: a7 :: a8 :: a9 :: a10 :: a11 :: some (.long x) :: r) (.long x :: st)) : VJ G M pc (a0 :: a1 :: a2 :: a3 :: a4 :: a5 :: a6 :: a7 :: a8 :: a9 :: a10 :: a11 :: some (.long x) :: r) st := by
  obtain ⟨sd, E, P, l, p, e, R, s, m, args, below, meth, c⟩ := G
  obtain ⟨hx, hb, hr, hml, hown, hts, hK, hN, hlk, hR⟩ := C
  intro H locs ls hP hD hS hl
  refine lv_lload hx hb d (hl.2.2 12 _ rfl) ?_
  exact k H locs ls hP hD hS hl
theorem r_ald0 {G : zG} {cc : ByteArray} {own : String} {ret : Option FieldType} {nL fr lc : Nat} (C : zC G cc own ret nL fr lc) {M : zM} {r : List (Option Value)} {st : List Value} {pc : Nat} {x : Nat} (d : decode cc pc = .ok (.aload_n 0, 1)) (k : VJ G M (pc + 1) (some (.ref x) :: r) (.ref x :: st)) : VJ G M pc (some (.ref x) :: r) st := by
  obtain ⟨sd, E, P, l, p, e, R, s, m, args, below, meth, c⟩ := G
  obtain ⟨hx, hb, hr, hml, hown, hts, hK, hN, hlk, hR⟩ := C
  intro H locs ls hP hD hS hl
  refine lv_aload_n hx hb d rfl (hl.2.2 0 _ rfl) ?_
  exact k H locs ls hP hD hS hl
theorem r_ald1 {G : zG} {cc : ByteArray} {own : String} {ret : Option FieldType} {nL fr lc : Nat} (C : zC G cc own ret nL fr lc) {M : zM} {r : List (Option Value)} {st : List Value} {pc : Nat} {a0 : Option Value} {x : Nat} (d : decode cc pc = .ok (.aload_n 1, 1)) (k : VJ G M (pc + 1) (a0 :: some (.ref x) :: r) (.ref x :: st)) : VJ G M pc (a0 :: some (.ref x) :: r) st := by
  obtain ⟨sd, E, P, l, p, e, R, s, m, args, below, meth, c⟩ := G
  obtain ⟨hx, hb, hr, hml, hown, hts, hK, hN, hlk, hR⟩ := C
  intro H locs ls hP hD hS hl
  refine lv_aload_n hx hb d rfl (hl.2.2 1 _ rfl) ?_
  exact k H locs ls hP hD hS hl
theorem r_ald2 {G : zG} {cc : ByteArray} {own : String} {ret : Option FieldType} {nL fr lc : Nat} (C : zC G cc own ret nL fr lc) {M : zM} {r : List (Option Value)} {st : List Value} {pc : Nat} {a0 a1 : Option Value} {x : Nat} (d : decode cc pc = .ok (.aload_n 2, 1)) (k : VJ G M (pc + 1) (a0 :: a1 :: some (.ref x) :: r) (.ref x :: st)) : VJ G M pc (a0 :: a1 :: some (.ref x) :: r) st := by
  obtain ⟨sd, E, P, l, p, e, R, s, m, args, below, meth, c⟩ := G
  obtain ⟨hx, hb, hr, hml, hown, hts, hK, hN, hlk, hR⟩ := C
  intro H locs ls hP hD hS hl
  refine lv_aload_n hx hb d rfl (hl.2.2 2 _ rfl) ?_
  exact k H locs ls hP hD hS hl
theorem r_ald3 {G : zG} {cc : ByteArray} {own : String} {ret : Option FieldType} {nL fr lc : Nat} (C : zC G cc own ret nL fr lc) {M : zM} {r : List (Option Value)} {st : List Value} {pc : Nat} {a0 a1 a2 : Option Value} {x : Nat} (d : decode cc pc = .ok (.aload_n 3, 1)) (k : VJ G M (pc + 1) (a0 :: a1 :: a2 :: some (.ref x) :: r) (.ref x :: st)) : VJ G M pc (a0 :: a1 :: a2 :: some (.ref x) :: r) st := by
  obtain ⟨sd, E, P, l, p, e, R, s, m, args, below, meth, c⟩ := G
  obtain ⟨hx, hb, hr, hml, hown, hts, hK, hN, hlk, hR⟩ := C
  intro H locs ls hP hD hS hl
  refine lv_aload_n hx hb d rfl (hl.2.2 3 _ rfl) ?_
  exact k H locs ls hP hD hS hl
theorem r_ald4 {G : zG} {cc : ByteArray} {own : String} {ret : Option FieldType} {nL fr lc : Nat} (C : zC G cc own ret nL fr lc) {M : zM} {r : List (Option Value)} {st : List Value} {pc : Nat} {a0 a1 a2 a3 : Option Value} {x : Nat} (d : decode cc pc = .ok (.aload 4, 2)) (k : VJ G M (pc + 2) (a0 :: a1 :: a2 :: a3 :: some (.ref x) :: r) (.ref x :: st)) : VJ G M pc (a0 :: a1 :: a2 :: a3 :: some (.ref x) :: r) st := by
  obtain ⟨sd, E, P, l, p, e, R, s, m, args, below, meth, c⟩ := G
  obtain ⟨hx, hb, hr, hml, hown, hts, hK, hN, hlk, hR⟩ := C
  intro H locs ls hP hD hS hl
  refine lv_aload hx hb d (hl.2.2 4 _ rfl) ?_
  exact k H locs ls hP hD hS hl
theorem r_ald5 {G : zG} {cc : ByteArray} {own : String} {ret : Option FieldType} {nL fr lc : Nat} (C : zC G cc own ret nL fr lc) {M : zM} {r : List (Option Value)} {st : List Value} {pc : Nat} {a0 a1 a2 a3 a4 : Option Value} {x : Nat} (d : decode cc pc = .ok (.aload 5, 2)) (k : VJ G M (pc + 2) (a0 :: a1 :: a2 :: a3 :: a4 :: some (.ref x) :: r) (.ref x :: st)) : VJ G M pc (a0 :: a1 :: a2 :: a3 :: a4 :: some (.ref x) :: r) st := by
  obtain ⟨sd, E, P, l, p, e, R, s, m, args, below, meth, c⟩ := G
  obtain ⟨hx, hb, hr, hml, hown, hts, hK, hN, hlk, hR⟩ := C
  intro H locs ls hP hD hS hl
  refine lv_aload hx hb d (hl.2.2 5 _ rfl) ?_
  exact k H locs ls hP hD hS hl
theorem r_ald6 {G : zG} {cc : ByteArray} {own : String} {ret : Option FieldType} {nL fr lc : Nat} (C : zC G cc own ret nL fr lc) {M : zM} {r : List (Option Value)} {st : List Value} {pc : Nat} {a0 a1 a2 a3 a4 a5 : Option Value} {x : Nat} (d : decode cc pc = .ok (.aload 6, 2)) (k : VJ G M (pc + 2) (a0 :: a1 :: a2 :: a3 :: a4 :: a5 :: some (.ref x) :: r) (.ref x :: st)) : VJ G M pc (a0 :: a1 :: a2 :: a3 :: a4 :: a5 :: some (.ref x) :: r) st := by
  obtain ⟨sd, E, P, l, p, e, R, s, m, args, below, meth, c⟩ := G
  obtain ⟨hx, hb, hr, hml, hown, hts, hK, hN, hlk, hR⟩ := C
  intro H locs ls hP hD hS hl
  refine lv_aload hx hb d (hl.2.2 6 _ rfl) ?_
  exact k H locs ls hP hD hS hl
theorem r_ald7 {G : zG} {cc : ByteArray} {own : String} {ret : Option FieldType} {nL fr lc : Nat} (C : zC G cc own ret nL fr lc) {M : zM} {r : List (Option Value)} {st : List Value} {pc : Nat} {a0 a1 a2 a3 a4 a5 a6 : Option Value} {x : Nat} (d : decode cc pc = .ok (.aload 7, 2)) (k : VJ G M (pc + 2) (a0 :: a1 :: a2 :: a3 :: a4 :: a5 :: a6 :: some (.ref x) :: r) (.ref x :: st)) : VJ G M pc (a0 :: a1 :: a2 :: a3 :: a4 :: a5 :: a6 :: some (.ref x) :: r) st := by
  obtain ⟨sd, E, P, l, p, e, R, s, m, args, below, meth, c⟩ := G
  obtain ⟨hx, hb, hr, hml, hown, hts, hK, hN, hlk, hR⟩ := C
  intro H locs ls hP hD hS hl
  refine lv_aload hx hb d (hl.2.2 7 _ rfl) ?_
  exact k H locs ls hP hD hS hl
theorem r_ald8 {G : zG} {cc : ByteArray} {own : String} {ret : Option FieldType} {nL fr lc : Nat} (C : zC G cc own ret nL fr lc) {M : zM} {r : List (Option Value)} {st : List Value} {pc : Nat} {a0 a1 a2 a3 a4 a5 a6 a7 : Option Value} {x : Nat} (d : decode cc pc = .ok (.aload 8, 2)) (k : VJ G M (pc + 2) (a0 :: a1 :: a2 :: a3 :: a4 :: a5 :: a6 :: a7 :: some (.ref x) :: r) (.ref x :: st)) : VJ G M pc (a0 :: a1 :: a2 :: a3 :: a4 :: a5 :: a6 :: a7 :: some (.ref x) :: r) st := by
  obtain ⟨sd, E, P, l, p, e, R, s, m, args, below, meth, c⟩ := G
  obtain ⟨hx, hb, hr, hml, hown, hts, hK, hN, hlk, hR⟩ := C
  intro H locs ls hP hD hS hl
  refine lv_aload hx hb d (hl.2.2 8 _ rfl) ?_
  exact k H locs ls hP hD hS hl
theorem r_ald9 {G : zG} {cc : ByteArray} {own : String} {ret : Option FieldType} {nL fr lc : Nat} (C : zC G cc own ret nL fr lc) {M : zM} {r : List (Option Value)} {st : List Value} {pc : Nat} {a0 a1 a2 a3 a4 a5 a6 a7 a8 : Option Value} {x : Nat} (d : decode cc pc = .ok (.aload 9, 2)) (k : VJ G M (pc + 2) (a0 :: a1 :: a2 :: a3 :: a4 :: a5 :: a6 :: a7 :: a8 :: some (.ref x) :: r) (.ref x :: st)) : VJ G M pc (a0 :: a1 :: a2 :: a3 :: a4 :: a5 :: a6 :: a7 :: a8 :: some (.ref x) :: r) st := by
  obtain ⟨sd, E, P, l, p, e, R, s, m, args, below, meth, c⟩ := G
  obtain ⟨hx, hb, hr, hml, hown, hts, hK, hN, hlk, hR⟩ := C
  intro H locs ls hP hD hS hl
  refine lv_aload hx hb d (hl.2.2 9 _ rfl) ?_
  exact k H locs ls hP hD hS hl
theorem r_ald10 {G : zG} {cc : ByteArray} {own : String} {ret : Option FieldType} {nL fr lc : Nat} (C : zC G cc own ret nL fr lc) {M : zM} {r : List (Option Value)} {st : List Value} {pc : Nat} {a0 a1 a2 a3 a4 a5 a6 a7 a8 a9 : Option Value} {x : Nat} (d : decode cc pc = .ok (.aload 10, 2)) (k : VJ G M (pc + 2) (a0 :: a1 :: a2 :: a3 :: a4 :: a5 :: a6 :: a7 :: a8 :: a9 :: some (.ref x) :: r) (.ref x :: st)) : VJ G M pc (a0 :: a1 :: a2 :: a3 :: a4 :: a5 :: a6 :: a7 :: a8 :: a9 :: some (.ref x) :: r) st := by
  obtain ⟨sd, E, P, l, p, e, R, s, m, args, below, meth, c⟩ := G
  obtain ⟨hx, hb, hr, hml, hown, hts, hK, hN, hlk, hR⟩ := C
  intro H locs ls hP hD hS hl
  refine lv_aload hx hb d (hl.2.2 10 _ rfl) ?_
  exact k H locs ls hP hD hS hl
theorem r_ald11 {G : zG} {cc : ByteArray} {own : String} {ret : Option FieldType} {nL fr lc : Nat} (C : zC G cc own ret nL fr lc) {M : zM} {r : List (Option Value)} {st : List Value} {pc : Nat} {a0 a1 a2 a3 a4 a5 a6 a7 a8 a9 a10 : Option Value} {x : Nat} (d : decode cc pc = .ok (.aload 11, 2)) (k : VJ G M (pc + 2) (a0 :: a1 :: a2 :: a3 :: a4 :: a5 :: a6 :: a7 :: a8 :: a9 :: a10 :: some (.ref x) :: r) (.ref x :: st)) : VJ G M pc (a0 :: a1 :: a2 :: a3 :: a4 :: a5 :: a6 :: a7 :: a8 :: a9 :: a10 :: some (.ref x) :: r) st := by
  obtain ⟨sd, E, P, l, p, e, R, s, m, args, below, meth, c⟩ := G
  obtain ⟨hx, hb, hr, hml, hown, hts, hK, hN, hlk, hR⟩ := C
  intro H locs ls hP hD hS hl
  refine lv_aload hx hb d (hl.2.2 11 _ rfl) ?_
  exact k H locs ls hP hD hS hl
theorem r_ald12 {G : zG} {cc : ByteArray} {own : String} {ret : Option FieldType} {nL fr lc : Nat} (C : zC G cc own ret nL fr lc) {M : zM} {r : List (Option Value)} {st : List Value} {pc : Nat} {a0 a1 a2 a3 a4 a5 a6 a7 a8 a9 a10 a11 : Option Value} {x : Nat} (d : decode cc pc = .ok (.aload 12, 2)) (k : VJ G M (pc + 2) (a0 :: a1 :: a2 :: a3 :: a4 :: a5 :: a6 :: a7 :: a8 :: a9 :: a10 :: a11 :: some (.ref x) :: r) (.ref x :: st)) : VJ G M pc (a0 :: a1 :: a2 :: a3 :: a4 :: a5 :: a6 :: a7 :: a8 :: a9 :: a10 :: a11 :: some (.ref x) :: r) st := by
  obtain ⟨sd, E, P, l, p, e, R, s, m, args, below, meth, c⟩ := G
  obtain ⟨hx, hb, hr, hml, hown, hts, hK, hN, hlk, hR⟩ := C
  intro H locs ls hP hD hS hl
  refine lv_aload hx hb d (hl.2.2 12 _ rfl) ?_
  exact k H locs ls hP hD hS hl
theorem lh_c1 {lo : List (Option Value)} {i : Nat} (h : i = 0 ∨ ∃ (j : Nat) (q : Option Value), j + 1 = i ∧ lo[j]? = some q ∧ zc1 q = true) : ∀ (j : Nat) (w : Value), j + 1 = i → lo[j]? = some (some w) → w.category = 1 := by
  intro j w hj hw
  rcases h with h | ⟨j2, q, e1, e2, e3⟩
  · omega
  · have : j2 = j := by omega
    subst this
    rw [hw] at e2
    cases e2
    exact zc1_spec e3 rfl
theorem r_ist0 {G : zG} {cc : ByteArray} {own : String} {ret : Option FieldType} {nL fr lc : Nat} (C : zC G cc own ret nL fr lc) {M : zM} {r : List (Option Value)} {st : List Value} {pc : Nat} { q0 : Option Value} {x : Int32} (d : decode cc pc = .ok (.istore_n 0, 1)) (k : VJ G M (pc + 1) (some (.int x) :: r) st) : VJ G M pc (q0 :: r) (.int x :: st) := by
  obtain ⟨sd, E, P, l, p, e, R, s, m, args, below, meth, c⟩ := G
  obtain ⟨hx, hb, hr, hml, hown, hts, hK, hN, hlk, hR⟩ := C
  intro H locs ls hP hD hS hl
  obtain ⟨ls', e', h'⟩ := lh_store1 (v := .int x) (i := 0) hl (by simp) rfl (lh_c1 (lo := (q0 :: r)) (i := 0) (Or.inl rfl))
  intro T hT X
  obtain ⟨t, a, b⟩ := k H locs ls' hP hD hS h' T hT X
  refine ⟨t, ?_, b⟩
  jvm_step X.here [X.here.top, hx, hb, d, e', Value.isRef]
  exact a
theorem r_ist1 {G : zG} {cc : ByteArray} {own : String} {ret : Option FieldType} {nL fr lc : Nat} (C : zC G cc own ret nL fr lc) {M : zM} {r : List (Option Value)} {st : List Value} {pc : Nat} {a0 q0 : Option Value} {x : Int32} (h1 : zc1 a0 = true) (d : decode cc pc = .ok (.istore_n 1, 1)) (k : VJ G M (pc + 1) (a0 :: some (.int x) :: r) st) : VJ G M pc (a0 :: q0 :: r) (.int x :: st) := by
  obtain ⟨sd, E, P, l, p, e, R, s, m, args, below, meth, c⟩ := G
  obtain ⟨hx, hb, hr, hml, hown, hts, hK, hN, hlk, hR⟩ := C
  intro H locs ls hP hD hS hl
  obtain ⟨ls', e', h'⟩ := lh_store1 (v := .int x) (i := 1) hl (by simp) rfl (lh_c1 (lo := (a0 :: q0 :: r)) (i := 1) (Or.inr ⟨0, _, rfl, rfl, h1⟩))
  intro T hT X
  obtain ⟨t, a, b⟩ := k H locs ls' hP hD hS h' T hT X
  refine ⟨t, ?_, b⟩
  jvm_step X.here [X.here.top, hx, hb, d, e', Value.isRef]
  exact a
theorem r_ist2 {G : zG} {cc : ByteArray} {own : String} {ret : Option FieldType} {nL fr lc : Nat} (C : zC G cc own ret nL fr lc) {M : zM} {r : List (Option Value)} {st : List Value} {pc : Nat} {a0 a1 q0 : Option Value} {x : Int32} (h1 : zc1 a1 = true) (d : decode cc pc = .ok (.istore_n 2, 1)) (k : VJ G M (pc + 1) (a0 :: a1 :: some (.int x) :: r) st) : VJ G M pc (a0 :: a1 :: q0 :: r) (.int x :: st) := by
  obtain ⟨sd, E, P, l, p, e, R, s, m, args, below, meth, c⟩ := G
  obtain ⟨hx, hb, hr, hml, hown, hts, hK, hN, hlk, hR⟩ := C
  intro H locs ls hP hD hS hl
  obtain ⟨ls', e', h'⟩ := lh_store1 (v := .int x) (i := 2) hl (by simp) rfl (lh_c1 (lo := (a0 :: a1 :: q0 :: r)) (i := 2) (Or.inr ⟨1, _, rfl, rfl, h1⟩))
  intro T hT X
  obtain ⟨t, a, b⟩ := k H locs ls' hP hD hS h' T hT X
  refine ⟨t, ?_, b⟩
  jvm_step X.here [X.here.top, hx, hb, d, e', Value.isRef]
  exact a
theorem r_ist3 {G : zG} {cc : ByteArray} {own : String} {ret : Option FieldType} {nL fr lc : Nat} (C : zC G cc own ret nL fr lc) {M : zM} {r : List (Option Value)} {st : List Value} {pc : Nat} {a0 a1 a2 q0 : Option Value} {x : Int32} (h1 : zc1 a2 = true) (d : decode cc pc = .ok (.istore_n 3, 1)) (k : VJ G M (pc + 1) (a0 :: a1 :: a2 :: some (.int x) :: r) st) : VJ G M pc (a0 :: a1 :: a2 :: q0 :: r) (.int x :: st) := by
  obtain ⟨sd, E, P, l, p, e, R, s, m, args, below, meth, c⟩ := G
  obtain ⟨hx, hb, hr, hml, hown, hts, hK, hN, hlk, hR⟩ := C
  intro H locs ls hP hD hS hl
  obtain ⟨ls', e', h'⟩ := lh_store1 (v := .int x) (i := 3) hl (by simp) rfl (lh_c1 (lo := (a0 :: a1 :: a2 :: q0 :: r)) (i := 3) (Or.inr ⟨2, _, rfl, rfl, h1⟩))
  intro T hT X
  obtain ⟨t, a, b⟩ := k H locs ls' hP hD hS h' T hT X
  refine ⟨t, ?_, b⟩
  jvm_step X.here [X.here.top, hx, hb, d, e', Value.isRef]
  exact a
theorem r_ist4 {G : zG} {cc : ByteArray} {own : String} {ret : Option FieldType} {nL fr lc : Nat} (C : zC G cc own ret nL fr lc) {M : zM} {r : List (Option Value)} {st : List Value} {pc : Nat} {a0 a1 a2 a3 q0 : Option Value} {x : Int32} (h1 : zc1 a3 = true) (d : decode cc pc = .ok (.istore 4, 2)) (k : VJ G M (pc + 2) (a0 :: a1 :: a2 :: a3 :: some (.int x) :: r) st) : VJ G M pc (a0 :: a1 :: a2 :: a3 :: q0 :: r) (.int x :: st) := by
  obtain ⟨sd, E, P, l, p, e, R, s, m, args, below, meth, c⟩ := G
  obtain ⟨hx, hb, hr, hml, hown, hts, hK, hN, hlk, hR⟩ := C
  intro H locs ls hP hD hS hl
  obtain ⟨ls', e', h'⟩ := lh_store1 (v := .int x) (i := 4) hl (by simp) rfl (lh_c1 (lo := (a0 :: a1 :: a2 :: a3 :: q0 :: r)) (i := 4) (Or.inr ⟨3, _, rfl, rfl, h1⟩))
  intro T hT X
  obtain ⟨t, a, b⟩ := k H locs ls' hP hD hS h' T hT X
  refine ⟨t, ?_, b⟩
  jvm_step X.here [X.here.top, hx, hb, d, e', Value.isRef]
  exact a
theorem r_ist5 {G : zG} {cc : ByteArray} {own : String} {ret : Option FieldType} {nL fr lc : Nat} (C : zC G cc own ret nL fr lc) {M : zM} {r : List (Option Value)} {st : List Value} {pc : Nat} {a0 a1 a2 a3 a4 q0 : Option Value} {x : Int32} (h1 : zc1 a4 = true) (d : decode cc pc = .ok (.istore 5, 2)) (k : VJ G M (pc + 2) (a0 :: a1 :: a2 :: a3 :: a4 :: some (.int x) :: r) st) : VJ G M pc (a0 :: a1 :: a2 :: a3 :: a4 :: q0 :: r) (.int x :: st) := by
  obtain ⟨sd, E, P, l, p, e, R, s, m, args, below, meth, c⟩ := G
  obtain ⟨hx, hb, hr, hml, hown, hts, hK, hN, hlk, hR⟩ := C
  intro H locs ls hP hD hS hl
  obtain ⟨ls', e', h'⟩ := lh_store1 (v := .int x) (i := 5) hl (by simp) rfl (lh_c1 (lo := (a0 :: a1 :: a2 :: a3 :: a4 :: q0 :: r)) (i := 5) (Or.inr ⟨4, _, rfl, rfl, h1⟩))
  intro T hT X
  obtain ⟨t, a, b⟩ := k H locs ls' hP hD hS h' T hT X
  refine ⟨t, ?_, b⟩
  jvm_step X.here [X.here.top, hx, hb, d, e', Value.isRef]
  exact a
theorem r_ist6 {G : zG} {cc : ByteArray} {own : String} {ret : Option FieldType} {nL fr lc : Nat} (C : zC G cc own ret nL fr lc) {M : zM} {r : List (Option Value)} {st : List Value} {pc : Nat} {a0 a1 a2 a3 a4 a5 q0 : Option Value} {x : Int32} (h1 : zc1 a5 = true) (d : decode cc pc = .ok (.istore 6, 2)) (k : VJ G M (pc + 2) (a0 :: a1 :: a2 :: a3 :: a4 :: a5 :: some (.int x) :: r) st) : VJ G M pc (a0 :: a1 :: a2 :: a3 :: a4 :: a5 :: q0 :: r) (.int x :: st) := by
  obtain ⟨sd, E, P, l, p, e, R, s, m, args, below, meth, c⟩ := G
  obtain ⟨hx, hb, hr, hml, hown, hts, hK, hN, hlk, hR⟩ := C
  intro H locs ls hP hD hS hl
  obtain ⟨ls', e', h'⟩ := lh_store1 (v := .int x) (i := 6) hl (by simp) rfl (lh_c1 (lo := (a0 :: a1 :: a2 :: a3 :: a4 :: a5 :: q0 :: r)) (i := 6) (Or.inr ⟨5, _, rfl, rfl, h1⟩))
  intro T hT X
  obtain ⟨t, a, b⟩ := k H locs ls' hP hD hS h' T hT X
  refine ⟨t, ?_, b⟩
  jvm_step X.here [X.here.top, hx, hb, d, e', Value.isRef]
  exact a
theorem r_ist7 {G : zG} {cc : ByteArray} {own : String} {ret : Option FieldType} {nL fr lc : Nat} (C : zC G cc own ret nL fr lc) {M : zM} {r : List (Option Value)} {st : List Value} {pc : Nat} {a0 a1 a2 a3 a4 a5 a6 q0 : Option Value} {x : Int32} (h1 : zc1 a6 = true) (d : decode cc pc = .ok (.istore 7, 2)) (k : VJ G M (pc + 2) (a0 :: a1 :: a2 :: a3 :: a4 :: a5 :: a6 :: some (.int x) :: r) st) : VJ G M pc (a0 :: a1 :: a2 :: a3 :: a4 :: a5 :: a6 :: q0 :: r) (.int x :: st) := by
  obtain ⟨sd, E, P, l, p, e, R, s, m, args, below, meth, c⟩ := G
  obtain ⟨hx, hb, hr, hml, hown, hts, hK, hN, hlk, hR⟩ := C
  intro H locs ls hP hD hS hl
  obtain ⟨ls', e', h'⟩ := lh_store1 (v := .int x) (i := 7) hl (by simp) rfl (lh_c1 (lo := (a0 :: a1 :: a2 :: a3 :: a4 :: a5 :: a6 :: q0 :: r)) (i := 7) (Or.inr ⟨6, _, rfl, rfl, h1⟩))
  intro T hT X
  obtain ⟨t, a, b⟩ := k H locs ls' hP hD hS h' T hT X
  refine ⟨t, ?_, b⟩
  jvm_step X.here [X.here.top, hx, hb, d, e', Value.isRef]
  exact a
theorem r_ist8 {G : zG} {cc : ByteArray} {own : String} {ret : Option FieldType} {nL fr lc : Nat} (C : zC G cc own ret nL fr lc) {M : zM} {r : List (Option Value)} {st : List Value} {pc : Nat} {a0 a1 a2 a3 a4 a5 a6 a7 q0 : Option Value} {x : Int32} (h1 : zc1 a7 = true) (d : decode cc pc = .ok (.istore 8, 2)) (k : VJ G M (pc + 2) (a0 :: a1 :: a2 :: a3 :: a4 :: a5 :: a6 :: a7 :: some (.int x) :: r) st) : VJ G M pc (a0 :: a1 :: a2 :: a3 :: a4 :: a5 :: a6 :: a7 :: q0 :: r) (.int x :: st) := by
  obtain ⟨sd, E, P, l, p, e, R, s, m, args, below, meth, c⟩ := G
  obtain ⟨hx, hb, hr, hml, hown, hts, hK, hN, hlk, hR⟩ := C
  intro H locs ls hP hD hS hl
  obtain ⟨ls', e', h'⟩ := lh_store1 (v := .int x) (i := 8) hl (by simp) rfl (lh_c1 (lo := (a0 :: a1 :: a2 :: a3 :: a4 :: a5 :: a6 :: a7 :: q0 :: r)) (i := 8) (Or.inr ⟨7, _, rfl, rfl, h1⟩))
  intro T hT X
  obtain ⟨t, a, b⟩ := k H locs ls' hP hD hS h' T hT X
  refine ⟨t, ?_, b⟩
  jvm_step X.here [X.here.top, hx, hb, d, e', Value.isRef]
  exact a
theorem r_ist9 {G : zG} {cc : ByteArray} {own : String} {ret : Option FieldType} {nL fr lc : Nat} (C : zC G cc own ret nL fr lc) {M : zM} {r : List (Option Value)} {st : List Value} {pc : Nat} {a0 a1 a2 a3 a4 a5 a6 a7 a8 q0 : Option Value} {x : Int32} (h1 : zc1 a8 = true) (d : decode cc pc = .ok (.istore 9, 2)) (k : VJ G M (pc + 2) (a0 :: a1 :: a2 :: a3 :: a4 :: a5 :: a6 :: a7 :: a8 :: some (.int x) :: r) st) : VJ G M pc (a0 :: a1 :: a2 :: a3 :: a4 :: a5 :: a6 :: a7 :: a8 :: q0 :: r) (.int x :: st) := by
  obtain ⟨sd, E, P, l, p, e, R, s, m, args, below, meth, c⟩ := G
  obtain ⟨hx, hb, hr, hml, hown, hts, hK, hN, hlk, hR⟩ := C
  intro H locs ls hP hD hS hl
  obtain ⟨ls', e', h'⟩ := lh_store1 (v := .int x) (i := 9) hl (by simp) rfl (lh_c1 (lo := (a0 :: a1 :: a2 :: a3 :: a4 :: a5 :: a6 :: a7 :: a8 :: q0 :: r)) (i := 9) (Or.inr ⟨8, _, rfl, rfl, h1⟩))
  intro T hT X
  obtain ⟨t, a, b⟩ := k H locs ls' hP hD hS h' T hT X
  refine ⟨t, ?_, b⟩
  jvm_step X.here [X.here.top, hx, hb, d, e', Value.isRef]
  exact a
theorem r_ist10 {G : zG} {cc : ByteArray} {own : String} {ret : Option FieldType} {nL fr lc : Nat} (C : zC G cc own ret nL fr lc) {M : zM} {r : List (Option Value)} {st : List Value} {pc : Nat} {a0 a1 a2 a3 a4 a5 a6 a7 a8 a9 q0 : Option Value} {x : Int32} (h1 : zc1 a9 = true) (d : decode cc pc = .ok (.istore 10, 2)) (k : VJ G M (pc + 2) (a0 :: a1 :: a2 :: a3 :: a4 :: a5 :: a6 :: a7 :: a8 :: a9 :: some (.int x) :: r) st) : VJ G M pc (a0 :: a1 :: a2 :: a3 :: a4 :: a5 :: a6 :: a7 :: a8 :: a9 :: q0 :: r) (.int x :: st) := by
  obtain ⟨sd, E, P, l, p, e, R, s, m, args, below, meth, c⟩ := G
  obtain ⟨hx, hb, hr, hml, hown, hts, hK, hN, hlk, hR⟩ := C
  intro H locs ls hP hD hS hl
  obtain ⟨ls', e', h'⟩ := lh_store1 (v := .int x) (i := 10) hl (by simp) rfl (lh_c1 (lo := (a0 :: a1 :: a2 :: a3 :: a4 :: a5 :: a6 :: a7 :: a8 :: a9 :: q0 :: r)) (i := 10) (Or.inr ⟨9, _, rfl, rfl, h1⟩))
  intro T hT X
  obtain ⟨t, a, b⟩ := k H locs ls' hP hD hS h' T hT X
  refine ⟨t, ?_, b⟩
  jvm_step X.here [X.here.top, hx, hb, d, e', Value.isRef]
  exact a
theorem r_ist11 {G : zG} {cc : ByteArray} {own : String} {ret : Option FieldType} {nL fr lc : Nat} (C : zC G cc own ret nL fr lc) {M : zM} {r : List (Option Value)} {st : List Value} {pc : Nat} {a0 a1 a2 a3 a4 a5 a6 a7 a8 a9 a10 q0 : Option Value} {x : Int32} (h1 : zc1 a10 = true) (d : decode cc pc = .ok (.istore 11, 2)) (k : VJ G M (pc + 2) (a0 :: a1 :: a2 :: a3 :: a4 :: a5 :: a6 :: a7 :: a8 :: a9 :: a10 :: some (.int x) :: r) st) : VJ G M pc (a0 :: a1 :: a2 :: a3 :: a4 :: a5 :: a6 :: a7 :: a8 :: a9 :: a10 :: q0 :: r) (.int x :: st) := by
  obtain ⟨sd, E, P, l, p, e, R, s, m, args, below, meth, c⟩ := G
  obtain ⟨hx, hb, hr, hml, hown, hts, hK, hN, hlk, hR⟩ := C
  intro H locs ls hP hD hS hl
  obtain ⟨ls', e', h'⟩ := lh_store1 (v := .int x) (i := 11) hl (by simp) rfl (lh_c1 (lo := (a0 :: a1 :: a2 :: a3 :: a4 :: a5 :: a6 :: a7 :: a8 :: a9 :: a10 :: q0 :: r)) (i := 11) (Or.inr ⟨10, _, rfl, rfl, h1⟩))
  intro T hT X
  obtain ⟨t, a, b⟩ := k H locs ls' hP hD hS h' T hT X
  refine ⟨t, ?_, b⟩
  jvm_step X.here [X.here.top, hx, hb, d, e', Value.isRef]
  exact a
theorem r_ist12 {G : zG} {cc : ByteArray} {own : String} {ret : Option FieldType} {nL fr lc : Nat} (C : zC G cc own ret nL fr lc) {M : zM} {r : List (Option Value)} {st : List Value} {pc : Nat} {a0 a1 a2 a3 a4 a5 a6 a7 a8 a9 a10 a11 q0 : Option Value} {x : Int32} (h1 : zc1 a11 = true) (d : decode cc pc = .ok (.istore 12, 2)) (k : VJ G M (pc + 2) (a0 :: a1 :: a2 :: a3 :: a4 :: a5 :: a6 :: a7 :: a8 :: a9 :: a10 :: a11 :: some (.int x) :: r) st) : VJ G M pc (a0 :: a1 :: a2 :: a3 :: a4 :: a5 :: a6 :: a7 :: a8 :: a9 :: a10 :: a11 :: q0 :: r) (.int x :: st) := by
  obtain ⟨sd, E, P, l, p, e, R, s, m, args, below, meth, c⟩ := G
  obtain ⟨hx, hb, hr, hml, hown, hts, hK, hN, hlk, hR⟩ := C
  intro H locs ls hP hD hS hl
  obtain ⟨ls', e', h'⟩ := lh_store1 (v := .int x) (i := 12) hl (by simp) rfl (lh_c1 (lo := (a0 :: a1 :: a2 :: a3 :: a4 :: a5 :: a6 :: a7 :: a8 :: a9 :: a10 :: a11 :: q0 :: r)) (i := 12) (Or.inr ⟨11, _, rfl, rfl, h1⟩))
  intro T hT X
  obtain ⟨t, a, b⟩ := k H locs ls' hP hD hS h' T hT X
  refine ⟨t, ?_, b⟩
  jvm_step X.here [X.here.top, hx, hb, d, e', Value.isRef]
  exact a
theorem r_ast0 {G : zG} {cc : ByteArray} {own : String} {ret : Option FieldType} {nL fr lc : Nat} (C : zC G cc own ret nL fr lc) {M : zM} {r : List (Option Value)} {st : List Value} {pc : Nat} { q0 : Option Value} {x : Nat} (d : decode cc pc = .ok (.astore_n 0, 1)) (k : VJ G M (pc + 1) (some (.ref x) :: r) st) : VJ G M pc (q0 :: r) (.ref x :: st) := by
  obtain ⟨sd, E, P, l, p, e, R, s, m, args, below, meth, c⟩ := G
  obtain ⟨hx, hb, hr, hml, hown, hts, hK, hN, hlk, hR⟩ := C
  intro H locs ls hP hD hS hl
  obtain ⟨ls', e', h'⟩ := lh_store1 (v := .ref x) (i := 0) hl (by simp) rfl (lh_c1 (lo := (q0 :: r)) (i := 0) (Or.inl rfl))
  intro T hT X
  obtain ⟨t, a, b⟩ := k H locs ls' hP hD hS h' T hT X
  refine ⟨t, ?_, b⟩
  jvm_step X.here [X.here.top, hx, hb, d, e', Value.isRef]
  exact a
theorem r_ast1 {G : zG} {cc : ByteArray} {own : String} {ret : Option FieldType} {nL fr lc : Nat} (C : zC G cc own ret nL fr lc) {M : zM} {r : List (Option Value)} {st : List Value} {pc : Nat} {a0 q0 : Option Value} {x : Nat} (h1 : zc1 a0 = true) (d : decode cc pc = .ok (.astore_n 1, 1)) (k : VJ G M (pc + 1) (a0 :: some (.ref x) :: r) st) : VJ G M pc (a0 :: q0 :: r) (.ref x :: st) := by
  obtain ⟨sd, E, P, l, p, e, R, s, m, args, below, meth, c⟩ := G
  obtain ⟨hx, hb, hr, hml, hown, hts, hK, hN, hlk, hR⟩ := C
  intro H locs ls hP hD hS hl
  obtain ⟨ls', e', h'⟩ := lh_store1 (v := .ref x) (i := 1) hl (by simp) rfl (lh_c1 (lo := (a0 :: q0 :: r)) (i := 1) (Or.inr ⟨0, _, rfl, rfl, h1⟩))
  intro T hT X
  obtain ⟨t, a, b⟩ := k H locs ls' hP hD hS h' T hT X
  refine ⟨t, ?_, b⟩
  jvm_step X.here [X.here.top, hx, hb, d, e', Value.isRef]
  exact a
theorem r_ast2 {G : zG} {cc : ByteArray} {own : String} {ret : Option FieldType} {nL fr lc : Nat} (C : zC G cc own ret nL fr lc) {M : zM} {r : List (Option Value)} {st : List Value} {pc : Nat} {a0 a1 q0 : Option Value} {x : Nat} (h1 : zc1 a1 = true) (d : decode cc pc = .ok (.astore_n 2, 1)) (k : VJ G M (pc + 1) (a0 :: a1 :: some (.ref x) :: r) st) : VJ G M pc (a0 :: a1 :: q0 :: r) (.ref x :: st) := by
  obtain ⟨sd, E, P, l, p, e, R, s, m, args, below, meth, c⟩ := G
  obtain ⟨hx, hb, hr, hml, hown, hts, hK, hN, hlk, hR⟩ := C
  intro H locs ls hP hD hS hl
  obtain ⟨ls', e', h'⟩ := lh_store1 (v := .ref x) (i := 2) hl (by simp) rfl (lh_c1 (lo := (a0 :: a1 :: q0 :: r)) (i := 2) (Or.inr ⟨1, _, rfl, rfl, h1⟩))
  intro T hT X
  obtain ⟨t, a, b⟩ := k H locs ls' hP hD hS h' T hT X
  refine ⟨t, ?_, b⟩
  jvm_step X.here [X.here.top, hx, hb, d, e', Value.isRef]
  exact a
theorem r_ast3 {G : zG} {cc : ByteArray} {own : String} {ret : Option FieldType} {nL fr lc : Nat} (C : zC G cc own ret nL fr lc) {M : zM} {r : List (Option Value)} {st : List Value} {pc : Nat} {a0 a1 a2 q0 : Option Value} {x : Nat} (h1 : zc1 a2 = true) (d : decode cc pc = .ok (.astore_n 3, 1)) (k : VJ G M (pc + 1) (a0 :: a1 :: a2 :: some (.ref x) :: r) st) : VJ G M pc (a0 :: a1 :: a2 :: q0 :: r) (.ref x :: st) := by
  obtain ⟨sd, E, P, l, p, e, R, s, m, args, below, meth, c⟩ := G
  obtain ⟨hx, hb, hr, hml, hown, hts, hK, hN, hlk, hR⟩ := C
  intro H locs ls hP hD hS hl
  obtain ⟨ls', e', h'⟩ := lh_store1 (v := .ref x) (i := 3) hl (by simp) rfl (lh_c1 (lo := (a0 :: a1 :: a2 :: q0 :: r)) (i := 3) (Or.inr ⟨2, _, rfl, rfl, h1⟩))
  intro T hT X
  obtain ⟨t, a, b⟩ := k H locs ls' hP hD hS h' T hT X
  refine ⟨t, ?_, b⟩
  jvm_step X.here [X.here.top, hx, hb, d, e', Value.isRef]
  exact a
theorem r_ast4 {G : zG} {cc : ByteArray} {own : String} {ret : Option FieldType} {nL fr lc : Nat} (C : zC G cc own ret nL fr lc) {M : zM} {r : List (Option Value)} {st : List Value} {pc : Nat} {a0 a1 a2 a3 q0 : Option Value} {x : Nat} (h1 : zc1 a3 = true) (d : decode cc pc = .ok (.astore 4, 2)) (k : VJ G M (pc + 2) (a0 :: a1 :: a2 :: a3 :: some (.ref x) :: r) st) : VJ G M pc (a0 :: a1 :: a2 :: a3 :: q0 :: r) (.ref x :: st) := by
  obtain ⟨sd, E, P, l, p, e, R, s, m, args, below, meth, c⟩ := G
  obtain ⟨hx, hb, hr, hml, hown, hts, hK, hN, hlk, hR⟩ := C
  intro H locs ls hP hD hS hl
  obtain ⟨ls', e', h'⟩ := lh_store1 (v := .ref x) (i := 4) hl (by simp) rfl (lh_c1 (lo := (a0 :: a1 :: a2 :: a3 :: q0 :: r)) (i := 4) (Or.inr ⟨3, _, rfl, rfl, h1⟩))
  intro T hT X
  obtain ⟨t, a, b⟩ := k H locs ls' hP hD hS h' T hT X
  refine ⟨t, ?_, b⟩
  jvm_step X.here [X.here.top, hx, hb, d, e', Value.isRef]
  exact a
theorem r_ast5 {G : zG} {cc : ByteArray} {own : String} {ret : Option FieldType} {nL fr lc : Nat} (C : zC G cc own ret nL fr lc) {M : zM} {r : List (Option Value)} {st : List Value} {pc : Nat} {a0 a1 a2 a3 a4 q0 : Option Value} {x : Nat} (h1 : zc1 a4 = true) (d : decode cc pc = .ok (.astore 5, 2)) (k : VJ G M (pc + 2) (a0 :: a1 :: a2 :: a3 :: a4 :: some (.ref x) :: r) st) : VJ G M pc (a0 :: a1 :: a2 :: a3 :: a4 :: q0 :: r) (.ref x :: st) := by
  obtain ⟨sd, E, P, l, p, e, R, s, m, args, below, meth, c⟩ := G
  obtain ⟨hx, hb, hr, hml, hown, hts, hK, hN, hlk, hR⟩ := C
  intro H locs ls hP hD hS hl
  obtain ⟨ls', e', h'⟩ := lh_store1 (v := .ref x) (i := 5) hl (by simp) rfl (lh_c1 (lo := (a0 :: a1 :: a2 :: a3 :: a4 :: q0 :: r)) (i := 5) (Or.inr ⟨4, _, rfl, rfl, h1⟩))
  intro T hT X
  obtain ⟨t, a, b⟩ := k H locs ls' hP hD hS h' T hT X
  refine ⟨t, ?_, b⟩
  jvm_step X.here [X.here.top, hx, hb, d, e', Value.isRef]
  exact a
theorem r_ast6 {G : zG} {cc : ByteArray} {own : String} {ret : Option FieldType} {nL fr lc : Nat} (C : zC G cc own ret nL fr lc) {M : zM} {r : List (Option Value)} {st : List Value} {pc : Nat} {a0 a1 a2 a3 a4 a5 q0 : Option Value} {x : Nat} (h1 : zc1 a5 = true) (d : decode cc pc = .ok (.astore 6, 2)) (k : VJ G M (pc + 2) (a0 :: a1 :: a2 :: a3 :: a4 :: a5 :: some (.ref x) :: r) st) : VJ G M pc (a0 :: a1 :: a2 :: a3 :: a4 :: a5 :: q0 :: r) (.ref x :: st) := by
  obtain ⟨sd, E, P, l, p, e, R, s, m, args, below, meth, c⟩ := G
  obtain ⟨hx, hb, hr, hml, hown, hts, hK, hN, hlk, hR⟩ := C
  intro H locs ls hP hD hS hl
  obtain ⟨ls', e', h'⟩ := lh_store1 (v := .ref x) (i := 6) hl (by simp) rfl (lh_c1 (lo := (a0 :: a1 :: a2 :: a3 :: a4 :: a5 :: q0 :: r)) (i := 6) (Or.inr ⟨5, _, rfl, rfl, h1⟩))
  intro T hT X
  obtain ⟨t, a, b⟩ := k H locs ls' hP hD hS h' T hT X
  refine ⟨t, ?_, b⟩
  jvm_step X.here [X.here.top, hx, hb, d, e', Value.isRef]
  exact a
theorem r_ast7 {G : zG} {cc : ByteArray} {own : String} {ret : Option FieldType} {nL fr lc : Nat} (C : zC G cc own ret nL fr lc) {M : zM} {r : List (Option Value)} {st : List Value} {pc : Nat} {a0 a1 a2 a3 a4 a5 a6 q0 : Option Value} {x : Nat} (h1 : zc1 a6 = true) (d : decode cc pc = .ok (.astore 7, 2)) (k : VJ G M (pc + 2) (a0 :: a1 :: a2 :: a3 :: a4 :: a5 :: a6 :: some (.ref x) :: r) st) : VJ G M pc (a0 :: a1 :: a2 :: a3 :: a4 :: a5 :: a6 :: q0 :: r) (.ref x :: st) := by
  obtain ⟨sd, E, P, l, p, e, R, s, m, args, below, meth, c⟩ := G
  obtain ⟨hx, hb, hr, hml, hown, hts, hK, hN, hlk, hR⟩ := C
  intro H locs ls hP hD hS hl
  obtain ⟨ls', e', h'⟩ := lh_store1 (v := .ref x) (i := 7) hl (by simp) rfl (lh_c1 (lo := (a0 :: a1 :: a2 :: a3 :: a4 :: a5 :: a6 :: q0 :: r)) (i := 7) (Or.inr ⟨6, _, rfl, rfl, h1⟩))
  intro T hT X
  obtain ⟨t, a, b⟩ := k H locs ls' hP hD hS h' T hT X
  refine ⟨t, ?_, b⟩
  jvm_step X.here [X.here.top, hx, hb, d, e', Value.isRef]
  exact a
theorem r_ast8 {G : zG} {cc : ByteArray} {own : String} {ret : Option FieldType} {nL fr lc : Nat} (C : zC G cc own ret nL fr lc) {M : zM} {r : List (Option Value)} {st : List Value} {pc : Nat} {a0 a1 a2 a3 a4 a5 a6 a7 q0 : Option Value} {x : Nat} (h1 : zc1 a7 = true) (d : decode cc pc = .ok (.astore 8, 2)) (k : VJ G M (pc + 2) (a0 :: a1 :: a2 :: a3 :: a4 :: a5 :: a6 :: a7 :: some (.ref x) :: r) st) : VJ G M pc (a0 :: a1 :: a2 :: a3 :: a4 :: a5 :: a6 :: a7 :: q0 :: r) (.ref x :: st) := by
  obtain ⟨sd, E, P, l, p, e, R, s, m, args, below, meth, c⟩ := G
  obtain ⟨hx, hb, hr, hml, hown, hts, hK, hN, hlk, hR⟩ := C
  intro H locs ls hP hD hS hl
  obtain ⟨ls', e', h'⟩ := lh_store1 (v := .ref x) (i := 8) hl (by simp) rfl (lh_c1 (lo := (a0 :: a1 :: a2 :: a3 :: a4 :: a5 :: a6 :: a7 :: q0 :: r)) (i := 8) (Or.inr ⟨7, _, rfl, rfl, h1⟩))
  intro T hT X
  obtain ⟨t, a, b⟩ := k H locs ls' hP hD hS h' T hT X
  refine ⟨t, ?_, b⟩
  jvm_step X.here [X.here.top, hx, hb, d, e', Value.isRef]
  exact a
theorem r_ast9 {G : zG} {cc : ByteArray} {own : String} {ret : Option FieldType} {nL fr lc : Nat} (C : zC G cc own ret nL fr lc) {M : zM} {r : List (Option Value)} {st : List Value} {pc : Nat} {a0 a1 a2 a3 a4 a5 a6 a7 a8 q0 : Option Value} {x : Nat} (h1 : zc1 a8 = true) (d : decode cc pc = .ok (.astore 9, 2)) (k : VJ G M (pc + 2) (a0 :: a1 :: a2 :: a3 :: a4 :: a5 :: a6 :: a7 :: a8 :: some (.ref x) :: r) st) : VJ G M pc (a0 :: a1 :: a2 :: a3 :: a4 :: a5 :: a6 :: a7 :: a8 :: q0 :: r) (.ref x :: st) := by
  obtain ⟨sd, E, P, l, p, e, R, s, m, args, below, meth, c⟩ := G
  obtain ⟨hx, hb, hr, hml, hown, hts, hK, hN, hlk, hR⟩ := C
  intro H locs ls hP hD hS hl
  obtain ⟨ls', e', h'⟩ := lh_store1 (v := .ref x) (i := 9) hl (by simp) rfl (lh_c1 (lo := (a0 :: a1 :: a2 :: a3 :: a4 :: a5 :: a6 :: a7 :: a8 :: q0 :: r)) (i := 9) (Or.inr ⟨8, _, rfl, rfl, h1⟩))
  intro T hT X
  obtain ⟨t, a, b⟩ := k H locs ls' hP hD hS h' T hT X
  refine ⟨t, ?_, b⟩
  jvm_step X.here [X.here.top, hx, hb, d, e', Value.isRef]
  exact a
theorem r_ast10 {G : zG} {cc : ByteArray} {own : String} {ret : Option FieldType} {nL fr lc : Nat} (C : zC G cc own ret nL fr lc) {M : zM} {r : List (Option Value)} {st : List Value} {pc : Nat} {a0 a1 a2 a3 a4 a5 a6 a7 a8 a9 q0 : Option Value} {x : Nat} (h1 : zc1 a9 = true) (d : decode cc pc = .ok (.astore 10, 2)) (k : VJ G M (pc + 2) (a0 :: a1 :: a2 :: a3 :: a4 :: a5 :: a6 :: a7 :: a8 :: a9 :: some (.ref x) :: r) st) : VJ G M pc (a0 :: a1 :: a2 :: a3 :: a4 :: a5 :: a6 :: a7 :: a8 :: a9 :: q0 :: r) (.ref x :: st) := by
  obtain ⟨sd, E, P, l, p, e, R, s, m, args, below, meth, c⟩ := G
  obtain ⟨hx, hb, hr, hml, hown, hts, hK, hN, hlk, hR⟩ := C
  intro H locs ls hP hD hS hl
  obtain ⟨ls', e', h'⟩ := lh_store1 (v := .ref x) (i := 10) hl (by simp) rfl (lh_c1 (lo := (a0 :: a1 :: a2 :: a3 :: a4 :: a5 :: a6 :: a7 :: a8 :: a9 :: q0 :: r)) (i := 10) (Or.inr ⟨9, _, rfl, rfl, h1⟩))
  intro T hT X
  obtain ⟨t, a, b⟩ := k H locs ls' hP hD hS h' T hT X
  refine ⟨t, ?_, b⟩
  jvm_step X.here [X.here.top, hx, hb, d, e', Value.isRef]
  exact a
theorem r_ast11 {G : zG} {cc : ByteArray} {own : String} {ret : Option FieldType} {nL fr lc : Nat} (C : zC G cc own ret nL fr lc) {M : zM} {r : List (Option Value)} {st : List Value} {pc : Nat} {a0 a1 a2 a3 a4 a5 a6 a7 a8 a9 a10 q0 : Option Value} {x : Nat} (h1 : zc1 a10 = true) (d : decode cc pc = .ok (.astore 11, 2)) (k : VJ G M (pc + 2) (a0 :: a1 :: a2 :: a3 :: a4 :: a5 :: a6 :: a7 :: a8 :: a9 :: a10 :: some (.ref x) :: r) st) : VJ G M pc (a0 :: a1 :: a2 :: a3 :: a4 :: a5 :: a6 :: a7 :: a8 :: a9 :: a10 :: q0 :: r) (.ref x :: st) := by
  obtain ⟨sd, E, P, l, p, e, R, s, m, args, below, meth, c⟩ := G
  obtain ⟨hx, hb, hr, hml, hown, hts, hK, hN, hlk, hR⟩ := C
  intro H locs ls hP hD hS hl
  obtain ⟨ls', e', h'⟩ := lh_store1 (v := .ref x) (i := 11) hl (by simp) rfl (lh_c1 (lo := (a0 :: a1 :: a2 :: a3 :: a4 :: a5 :: a6 :: a7 :: a8 :: a9 :: a10 :: q0 :: r)) (i := 11) (Or.inr ⟨10, _, rfl, rfl, h1⟩))
  intro T hT X
  obtain ⟨t, a, b⟩ := k H locs ls' hP hD hS h' T hT X
  refine ⟨t, ?_, b⟩
  jvm_step X.here [X.here.top, hx, hb, d, e', Value.isRef]
  exact a
theorem r_ast12 {G : zG} {cc : ByteArray} {own : String} {ret : Option FieldType} {nL fr lc : Nat} (C : zC G cc own ret nL fr lc) {M : zM} {r : List (Option Value)} {st : List Value} {pc : Nat} {a0 a1 a2 a3 a4 a5 a6 a7 a8 a9 a10 a11 q0 : Option Value} {x : Nat} (h1 : zc1 a11 = true) (d : decode cc pc = .ok (.astore 12, 2)) (k : VJ G M (pc + 2) (a0 :: a1 :: a2 :: a3 :: a4 :: a5 :: a6 :: a7 :: a8 :: a9 :: a10 :: a11 :: some (.ref x) :: r) st) : VJ G M pc (a0 :: a1 :: a2 :: a3 :: a4 :: a5 :: a6 :: a7 :: a8 :: a9 :: a10 :: a11 :: q0 :: r) (.ref x :: st) := by
  obtain ⟨sd, E, P, l, p, e, R, s, m, args, below, meth, c⟩ := G
  obtain ⟨hx, hb, hr, hml, hown, hts, hK, hN, hlk, hR⟩ := C
  intro H locs ls hP hD hS hl
  obtain ⟨ls', e', h'⟩ := lh_store1 (v := .ref x) (i := 12) hl (by simp) rfl (lh_c1 (lo := (a0 :: a1 :: a2 :: a3 :: a4 :: a5 :: a6 :: a7 :: a8 :: a9 :: a10 :: a11 :: q0 :: r)) (i := 12) (Or.inr ⟨11, _, rfl, rfl, h1⟩))
  intro T hT X
  obtain ⟨t, a, b⟩ := k H locs ls' hP hD hS h' T hT X
  refine ⟨t, ?_, b⟩
  jvm_step X.here [X.here.top, hx, hb, d, e', Value.isRef]
  exact a
theorem r_lst0 {G : zG} {cc : ByteArray} {own : String} {ret : Option FieldType} {nL fr lc : Nat} (C : zC G cc own ret nL fr lc) {M : zM} {r : List (Option Value)} {st : List Value} {pc : Nat} { q0 q1 : Option Value} {x : Int64} (d : decode cc pc = .ok (.lstore_n 0, 1)) (k : VJ G M (pc + 1) (some (.long x) :: none :: r) st) : VJ G M pc (q0 :: q1 :: r) (.long x :: st) := by
  obtain ⟨sd, E, P, l, p, e, R, s, m, args, below, meth, c⟩ := G
  obtain ⟨hx, hb, hr, hml, hown, hts, hK, hN, hlk, hR⟩ := C
  intro H locs ls hP hD hS hl
  obtain ⟨ls', e', h'⟩ := lh_store2 (v := .long x) (i := 0) hl (by simp) rfl (lh_c1 (lo := (q0 :: q1 :: r)) (i := 0) (Or.inl rfl))
  intro T hT X
  obtain ⟨t, a, b⟩ := k H locs ls' hP hD hS h' T hT X
  refine ⟨t, ?_, b⟩
  jvm_step X.here [X.here.top, hx, hb, d, e']
  exact a
theorem r_lst1 {G : zG} {cc : ByteArray} {own : String} {ret : Option FieldType} {nL fr lc : Nat} (C : zC G cc own ret nL fr lc) {M : zM} {r : List (Option Value)} {st : List Value} {pc : Nat} {a0 q0 q1 : Option Value} {x : Int64} (h1 : zc1 a0 = true) (d : decode cc pc = .ok (.lstore_n 1, 1)) (k : VJ G M (pc + 1) (a0 :: some (.long x) :: none :: r) st) : VJ G M pc (a0 :: q0 :: q1 :: r) (.long x :: st) := by
  obtain ⟨sd, E, P, l, p, e, R, s, m, args, below, meth, c⟩ := G
  obtain ⟨hx, hb, hr, hml, hown, hts, hK, hN, hlk, hR⟩ := C
  intro H locs ls hP hD hS hl
  obtain ⟨ls', e', h'⟩ := lh_store2 (v := .long x) (i := 1) hl (by simp) rfl (lh_c1 (lo := (a0 :: q0 :: q1 :: r)) (i := 1) (Or.inr ⟨0, _, rfl, rfl, h1⟩))
  intro T hT X
  obtain ⟨t, a, b⟩ := k H locs ls' hP hD hS h' T hT X
  refine ⟨t, ?_, b⟩
  jvm_step X.here [X.here.top, hx, hb, d, e']
  exact a
theorem r_lst2 {G : zG} {cc : ByteArray} {own : String} {ret : Option FieldType} {nL fr lc : Nat} (C : zC G cc own ret nL fr lc) {M : zM} {r : List (Option Value)} {st : List Value} {pc : Nat} {a0 a1 q0 q1 : Option Value} {x : Int64} (h1 : zc1 a1 = true) (d : decode cc pc = .ok (.lstore_n 2, 1)) (k : VJ G M (pc + 1) (a0 :: a1 :: some (.long x) :: none :: r) st) : VJ G M pc (a0 :: a1 :: q0 :: q1 :: r) (.long x :: st) := by
  obtain ⟨sd, E, P, l, p, e, R, s, m, args, below, meth, c⟩ := G
  obtain ⟨hx, hb, hr, hml, hown, hts, hK, hN, hlk, hR⟩ := C
  intro H locs ls hP hD hS hl
  obtain ⟨ls', e', h'⟩ := lh_store2 (v := .long x) (i := 2) hl (by simp) rfl (lh_c1 (lo := (a0 :: a1 :: q0 :: q1 :: r)) (i := 2) (Or.inr ⟨1, _, rfl, rfl, h1⟩))
  intro T hT X
  obtain ⟨t, a, b⟩ := k H locs ls' hP hD hS h' T hT X
  refine ⟨t, ?_, b⟩
  jvm_step X.here [X.here.top, hx, hb, d, e']
  exact a
theorem r_lst3 {G : zG} {cc : ByteArray} {own : String} {ret : Option FieldType} {nL fr lc : Nat} (C : zC G cc own ret nL fr lc) {M : zM} {r : List (Option Value)} {st : List Value} {pc : Nat} {a0 a1 a2 q0 q1 : Option Value} {x : Int64} (h1 : zc1 a2 = true) (d : decode cc pc = .ok (.lstore_n 3, 1)) (k : VJ G M (pc + 1) (a0 :: a1 :: a2 :: some (.long x) :: none :: r) st) : VJ G M pc (a0 :: a1 :: a2 :: q0 :: q1 :: r) (.long x :: st) := by
  obtain ⟨sd, E, P, l, p, e, R, s, m, args, below, meth, c⟩ := G
  obtain ⟨hx, hb, hr, hml, hown, hts, hK, hN, hlk, hR⟩ := C
  intro H locs ls hP hD hS hl
  obtain ⟨ls', e', h'⟩ := lh_store2 (v := .long x) (i := 3) hl (by simp) rfl (lh_c1 (lo := (a0 :: a1 :: a2 :: q0 :: q1 :: r)) (i := 3) (Or.inr ⟨2, _, rfl, rfl, h1⟩))
  intro T hT X
  obtain ⟨t, a, b⟩ := k H locs ls' hP hD hS h' T hT X
  refine ⟨t, ?_, b⟩
  jvm_step X.here [X.here.top, hx, hb, d, e']
  exact a
theorem r_lst4 {G : zG} {cc : ByteArray} {own : String} {ret : Option FieldType} {nL fr lc : Nat} (C : zC G cc own ret nL fr lc) {M : zM} {r : List (Option Value)} {st : List Value} {pc : Nat} {a0 a1 a2 a3 q0 q1 : Option Value} {x : Int64} (h1 : zc1 a3 = true) (d : decode cc pc = .ok (.lstore 4, 2)) (k : VJ G M (pc + 2) (a0 :: a1 :: a2 :: a3 :: some (.long x) :: none :: r) st) : VJ G M pc (a0 :: a1 :: a2 :: a3 :: q0 :: q1 :: r) (.long x :: st) := by
  obtain ⟨sd, E, P, l, p, e, R, s, m, args, below, meth, c⟩ := G
  obtain ⟨hx, hb, hr, hml, hown, hts, hK, hN, hlk, hR⟩ := C
  intro H locs ls hP hD hS hl
  obtain ⟨ls', e', h'⟩ := lh_store2 (v := .long x) (i := 4) hl (by simp) rfl (lh_c1 (lo := (a0 :: a1 :: a2 :: a3 :: q0 :: q1 :: r)) (i := 4) (Or.inr ⟨3, _, rfl, rfl, h1⟩))
  intro T hT X
  obtain ⟨t, a, b⟩ := k H locs ls' hP hD hS h' T hT X
  refine ⟨t, ?_, b⟩
  jvm_step X.here [X.here.top, hx, hb, d, e']
  exact a
theorem r_lst5 {G : zG} {cc : ByteArray} {own : String} {ret : Option FieldType} {nL fr lc : Nat} (C : zC G cc own ret nL fr lc) {M : zM} {r : List (Option Value)} {st : List Value} {pc : Nat} {a0 a1 a2 a3 a4 q0 q1 : Option Value} {x : Int64} (h1 : zc1 a4 = true) (d : decode cc pc = .ok (.lstore 5, 2)) (k : VJ G M (pc + 2) (a0 :: a1 :: a2 :: a3 :: a4 :: some (.long x) :: none :: r) st) : VJ G M pc (a0 :: a1 :: a2 :: a3 :: a4 :: q0 :: q1 :: r) (.long x :: st) := by
  obtain ⟨sd, E, P, l, p, e, R, s, m, args, below, meth, c⟩ := G
  obtain ⟨hx, hb, hr, hml, hown, hts, hK, hN, hlk, hR⟩ := C
  intro H locs ls hP hD hS hl
  obtain ⟨ls', e', h'⟩ := lh_store2 (v := .long x) (i := 5) hl (by simp) rfl (lh_c1 (lo := (a0 :: a1 :: a2 :: a3 :: a4 :: q0 :: q1 :: r)) (i := 5) (Or.inr ⟨4, _, rfl, rfl, h1⟩))
  intro T hT X
  obtain ⟨t, a, b⟩ := k H locs ls' hP hD hS h' T hT X
  refine ⟨t, ?_, b⟩
  jvm_step X.here [X.here.top, hx, hb, d, e']
  exact a
theorem r_lst6 {G : zG} {cc : ByteArray} {own : String} {ret : Option FieldType} {nL fr lc : Nat} (C : zC G cc own ret nL fr lc) {M : zM} {r : List (Option Value)} {st : List Value} {pc : Nat} {a0 a1 a2 a3 a4 a5 q0 q1 : Option Value} {x : Int64} (h1 : zc1 a5 = true) (d : decode cc pc = .ok (.lstore 6, 2)) (k : VJ G M (pc + 2) (a0 :: a1 :: a2 :: a3 :: a4 :: a5 :: some (.long x) :: none :: r) st) : VJ G M pc (a0 :: a1 :: a2 :: a3 :: a4 :: a5 :: q0 :: q1 :: r) (.long x :: st) := by
  obtain ⟨sd, E, P, l, p, e, R, s, m, args, below, meth, c⟩ := G
  obtain ⟨hx, hb, hr, hml, hown, hts, hK, hN, hlk, hR⟩ := C
  intro H locs ls hP hD hS hl
  obtain ⟨ls', e', h'⟩ := lh_store2 (v := .long x) (i := 6) hl (by simp) rfl (lh_c1 (lo := (a0 :: a1 :: a2 :: a3 :: a4 :: a5 :: q0 :: q1 :: r)) (i := 6) (Or.inr ⟨5, _, rfl, rfl, h1⟩))
  intro T hT X
  obtain ⟨t, a, b⟩ := k H locs ls' hP hD hS h' T hT X
  refine ⟨t, ?_, b⟩
  jvm_step X.here [X.here.top, hx, hb, d, e']
  exact a
theorem r_lst7 {G : zG} {cc : ByteArray} {own : String} {ret : Option FieldType} {nL fr lc : Nat} (C : zC G cc own ret nL fr lc) {M : zM} {r : List (Option Value)} {st : List Value} {pc : Nat} {a0 a1 a2 a3 a4 a5 a6 q0 q1 : Option Value} {x : Int64} (h1 : zc1 a6 = true) (d : decode cc pc = .ok (.lstore 7, 2)) (k : VJ G M (pc + 2) (a0 :: a1 :: a2 :: a3 :: a4 :: a5 :: a6 :: some (.long x) :: none :: r) st) : VJ G M pc (a0 :: a1 :: a2 :: a3 :: a4 :: a5 :: a6 :: q0 :: q1 :: r) (.long x :: st) := by
  obtain ⟨sd, E, P, l, p, e, R, s, m, args, below, meth, c⟩ := G
  obtain ⟨hx, hb, hr, hml, hown, hts, hK, hN, hlk, hR⟩ := C
  intro H locs ls hP hD hS hl
  obtain ⟨ls', e', h'⟩ := lh_store2 (v := .long x) (i := 7) hl (by simp) rfl (lh_c1 (lo := (a0 :: a1 :: a2 :: a3 :: a4 :: a5 :: a6 :: q0 :: q1 :: r)) (i := 7) (Or.inr ⟨6, _, rfl, rfl, h1⟩))
  intro T hT X
  obtain ⟨t, a, b⟩ := k H locs ls' hP hD hS h' T hT X
  refine ⟨t, ?_, b⟩
  jvm_step X.here [X.here.top, hx, hb, d, e']
  exact a
theorem r_lst8 {G : zG} {cc : ByteArray} {own : String} {ret : Option FieldType} {nL fr lc : Nat} (C : zC G cc own ret nL fr lc) {M : zM} {r : List (Option Value)} {st : List Value} {pc : Nat} {a0 a1 a2 a3 a4 a5 a6 a7 q0 q1 : Option Value} {x : Int64} (h1 : zc1 a7 = true) (d : decode cc pc = .ok (.lstore 8, 2)) (k : VJ G M (pc + 2) (a0 :: a1 :: a2 :: a3 :: a4 :: a5 :: a6 :: a7 :: some (.long x) :: none :: r) st) : VJ G M pc (a0 :: a1 :: a2 :: a3 :: a4 :: a5 :: a6 :: a7 :: q0 :: q1 :: r) (.long x :: st) := by
  obtain ⟨sd, E, P, l, p, e, R, s, m, args, below, meth, c⟩ := G
  obtain ⟨hx, hb, hr, hml, hown, hts, hK, hN, hlk, hR⟩ := C
  intro H locs ls hP hD hS hl
  obtain ⟨ls', e', h'⟩ := lh_store2 (v := .long x) (i := 8) hl (by simp) rfl (lh_c1 (lo := (a0 :: a1 :: a2 :: a3 :: a4 :: a5 :: a6 :: a7 :: q0 :: q1 :: r)) (i := 8) (Or.inr ⟨7, _, rfl, rfl, h1⟩))
  intro T hT X
  obtain ⟨t, a, b⟩ := k H locs ls' hP hD hS h' T hT X
  refine ⟨t, ?_, b⟩
  jvm_step X.here [X.here.top, hx, hb, d, e']
  exact a
theorem r_lst9 {G : zG} {cc : ByteArray} {own : String} {ret : Option FieldType} {nL fr lc : Nat} (C : zC G cc own ret nL fr lc) {M : zM} {r : List (Option Value)} {st : List Value} {pc : Nat} {a0 a1 a2 a3 a4 a5 a6 a7 a8 q0 q1 : Option Value} {x : Int64} (h1 : zc1 a8 = true) (d : decode cc pc = .ok (.lstore 9, 2)) (k : VJ G M (pc + 2) (a0 :: a1 :: a2 :: a3 :: a4 :: a5 :: a6 :: a7 :: a8 :: some (.long x) :: none :: r) st) : VJ G M pc (a0 :: a1 :: a2 :: a3 :: a4 :: a5 :: a6 :: a7 :: a8 :: q0 :: q1 :: r) (.long x :: st) := by
  obtain ⟨sd, E, P, l, p, e, R, s, m, args, below, meth, c⟩ := G
  obtain ⟨hx, hb, hr, hml, hown, hts, hK, hN, hlk, hR⟩ := C
  intro H locs ls hP hD hS hl
  obtain ⟨ls', e', h'⟩ := lh_store2 (v := .long x) (i := 9) hl (by simp) rfl (lh_c1 (lo := (a0 :: a1 :: a2 :: a3 :: a4 :: a5 :: a6 :: a7 :: a8 :: q0 :: q1 :: r)) (i := 9) (Or.inr ⟨8, _, rfl, rfl, h1⟩))
  intro T hT X
  obtain ⟨t, a, b⟩ := k H locs ls' hP hD hS h' T hT X
  refine ⟨t, ?_, b⟩
  jvm_step X.here [X.here.top, hx, hb, d, e']
  exact a
theorem r_lst10 {G : zG} {cc : ByteArray} {own : String} {ret : Option FieldType} {nL fr lc : Nat} (C : zC G cc own ret nL fr lc) {M : zM} {r : List (Option Value)} {st : List Value} {pc : Nat} {a0 a1 a2 a3 a4 a5 a6 a7 a8 a9 q0 q1 : Option Value} {x : Int64} (h1 : zc1 a9 = true) (d : decode cc pc = .ok (.lstore 10, 2)) (k : VJ G M (pc + 2) (a0 :: a1 :: a2 :: a3 :: a4 :: a5 :: a6 :: a7 :: a8 :: a9 :: some (.long x) :: none :: r) st) : VJ G M pc (a0 :: a1 :: a2 :: a3 :: a4 :: a5 :: a6 :: a7 :: a8 :: a9 :: q0 :: q1 :: r) (.long x :: st) := by
  obtain ⟨sd, E, P, l, p, e, R, s, m, args, below, meth, c⟩ := G
  obtain ⟨hx, hb, hr, hml, hown, hts, hK, hN, hlk, hR⟩ := C
  intro H locs ls hP hD hS hl
  obtain ⟨ls', e', h'⟩ := lh_store2 (v := .long x) (i := 10) hl (by simp) rfl (lh_c1 (lo := (a0 :: a1 :: a2 :: a3 :: a4 :: a5 :: a6 :: a7 :: a8 :: a9 :: q0 :: q1 :: r)) (i := 10) (Or.inr ⟨9, _, rfl, rfl, h1⟩))
  intro T hT X
  obtain ⟨t, a, b⟩ := k H locs ls' hP hD hS h' T hT X
  refine ⟨t, ?_, b⟩
  jvm_step X.here [X.here.top, hx, hb, d, e']
  exact a
theorem r_lst11 {G : zG} {cc : ByteArray} {own : String} {ret : Option FieldType} {nL fr lc : Nat} (C : zC G cc own ret nL fr lc) {M : zM} {r : List (Option Value)} {st : List Value} {pc : Nat} {a0 a1 a2 a3 a4 a5 a6 a7 a8 a9 a10 q0 q1 : Option Value} {x : Int64} (h1 : zc1 a10 = true) (d : decode cc pc = .ok (.lstore 11, 2)) (k : VJ G M (pc + 2) (a0 :: a1 :: a2 :: a3 :: a4 :: a5 :: a6 :: a7 :: a8 :: a9 :: a10 :: some (.long x) :: none :: r) st) : VJ G M pc (a0 :: a1 :: a2 :: a3 :: a4 :: a5 :: a6 :: a7 :: a8 :: a9 :: a10 :: q0 :: q1 :: r) (.long x :: st) := by
  obtain ⟨sd, E, P, l, p, e, R, s, m, args, below, meth, c⟩ := G
  obtain ⟨hx, hb, hr, hml, hown, hts, hK, hN, hlk, hR⟩ := C
  intro H locs ls hP hD hS hl
  obtain ⟨ls', e', h'⟩ := lh_store2 (v := .long x) (i := 11) hl (by simp) rfl (lh_c1 (lo := (a0 :: a1 :: a2 :: a3 :: a4 :: a5 :: a6 :: a7 :: a8 :: a9 :: a10 :: q0 :: q1 :: r)) (i := 11) (Or.inr ⟨10, _, rfl, rfl, h1⟩))
  intro T hT X
  obtain ⟨t, a, b⟩ := k H locs ls' hP hD hS h' T hT X
  refine ⟨t, ?_, b⟩
  jvm_step X.here [X.here.top, hx, hb, d, e']
  exact a
theorem r_iinc0 {G : zG} {cc : ByteArray} {own : String} {ret : Option FieldType} {nL fr lc : Nat} (C : zC G cc own ret nL fr lc) {M : zM} {r : List (Option Value)} {st : List Value} {pc : Nat} {z n : Int} (d : decode cc pc = .ok (.iinc 0 n, 3)) (k : VJ G M (pc + 3) (some (.int (iI (z + n))) :: r) st) : VJ G M pc (some (.int (iI z)) :: r) st := by
  obtain ⟨sd, E, P, l, p, e, R, s, m, args, below, meth, c⟩ := G
  obtain ⟨hx, hb, hr, hml, hown, hts, hK, hN, hlk, hR⟩ := C
  intro H locs ls hP hD hS hl
  obtain ⟨ls', e', h'⟩ := lh_store1 (v := .int (iI (z + n))) (i := 0) hl (by simp) rfl (lh_c1 (lo := (some (.int (iI z)) :: r)) (i := 0) (Or.inl rfl))
  have hg : ls[0]? = some (.val (.int (iI z))) := hl.2.2 0 _ rfl
  have e2 : iI z + Int32.ofInt n = iI (z + n) := iI_add z n
  intro T hT X
  obtain ⟨t, a, b⟩ := k H locs ls' hP hD hS h' T hT X
  refine ⟨t, ?_, b⟩
  rw [← e2] at e'
  jvm_step X.here [X.here.top, hx, hb, d, hg, e']
  exact a
theorem r_iinc1 {G : zG} {cc : ByteArray} {own : String} {ret : Option FieldType} {nL fr lc : Nat} (C : zC G cc own ret nL fr lc) {M : zM} {r : List (Option Value)} {st : List Value} {pc : Nat} {a0 : Option Value} {z n : Int} (h1 : zc1 a0 = true) (d : decode cc pc = .ok (.iinc 1 n, 3)) (k : VJ G M (pc + 3) (a0 :: some (.int (iI (z + n))) :: r) st) : VJ G M pc (a0 :: some (.int (iI z)) :: r) st := by
  obtain ⟨sd, E, P, l, p, e, R, s, m, args, below, meth, c⟩ := G
  obtain ⟨hx, hb, hr, hml, hown, hts, hK, hN, hlk, hR⟩ := C
  intro H locs ls hP hD hS hl
  obtain ⟨ls', e', h'⟩ := lh_store1 (v := .int (iI (z + n))) (i := 1) hl (by simp) rfl (lh_c1 (lo := (a0 :: some (.int (iI z)) :: r)) (i := 1) (Or.inr ⟨0, _, rfl, rfl, h1⟩))
  have hg : ls[1]? = some (.val (.int (iI z))) := hl.2.2 1 _ rfl
  have e2 : iI z + Int32.ofInt n = iI (z + n) := iI_add z n
  intro T hT X
  obtain ⟨t, a, b⟩ := k H locs ls' hP hD hS h' T hT X
  refine ⟨t, ?_, b⟩
  rw [← e2] at e'
  jvm_step X.here [X.here.top, hx, hb, d, hg, e']
  exact a
theorem r_iinc2 {G : zG} {cc : ByteArray} {own : String} {ret : Option FieldType} {nL fr lc : Nat} (C : zC G cc own ret nL fr lc) {M : zM} {r : List (Option Value)} {st : List Value} {pc : Nat} {a0 a1 : Option Value} {z n : Int} (h1 : zc1 a1 = true) (d : decode cc pc = .ok (.iinc 2 n, 3)) (k : VJ G M (pc + 3) (a0 :: a1 :: some (.int (iI (z + n))) :: r) st) : VJ G M pc (a0 :: a1 :: some (.int (iI z)) :: r) st := by
  obtain ⟨sd, E, P, l, p, e, R, s, m, args, below, meth, c⟩ := G
  obtain ⟨hx, hb, hr, hml, hown, hts, hK, hN, hlk, hR⟩ := C
  intro H locs ls hP hD hS hl
  obtain ⟨ls', e', h'⟩ := lh_store1 (v := .int (iI (z + n))) (i := 2) hl (by simp) rfl (lh_c1 (lo := (a0 :: a1 :: some (.int (iI z)) :: r)) (i := 2) (Or.inr ⟨1, _, rfl, rfl, h1⟩))
  have hg : ls[2]? = some (.val (.int (iI z))) := hl.2.2 2 _ rfl
  have e2 : iI z + Int32.ofInt n = iI (z + n) := iI_add z n
  intro T hT X
  obtain ⟨t, a, b⟩ := k H locs ls' hP hD hS h' T hT X
  refine ⟨t, ?_, b⟩
  rw [← e2] at e'
  jvm_step X.here [X.here.top, hx, hb, d, hg, e']
  exact a
theorem r_iinc3 {G : zG} {cc : ByteArray} {own : String} {ret : Option FieldType} {nL fr lc : Nat} (C : zC G cc own ret nL fr lc) {M : zM} {r : List (Option Value)} {st : List Value} {pc : Nat} {a0 a1 a2 : Option Value} {z n : Int} (h1 : zc1 a2 = true) (d : decode cc pc = .ok (.iinc 3 n, 3)) (k : VJ G M (pc + 3) (a0 :: a1 :: a2 :: some (.int (iI (z + n))) :: r) st) : VJ G M pc (a0 :: a1 :: a2 :: some (.int (iI z)) :: r) st := by
  obtain ⟨sd, E, P, l, p, e, R, s, m, args, below, meth, c⟩ := G
  obtain ⟨hx, hb, hr, hml, hown, hts, hK, hN, hlk, hR⟩ := C
  intro H locs ls hP hD hS hl
  obtain ⟨ls', e', h'⟩ := lh_store1 (v := .int (iI (z + n))) (i := 3) hl (by simp) rfl (lh_c1 (lo := (a0 :: a1 :: a2 :: some (.int (iI z)) :: r)) (i := 3) (Or.inr ⟨2, _, rfl, rfl, h1⟩))
  have hg : ls[3]? = some (.val (.int (iI z))) := hl.2.2 3 _ rfl
  have e2 : iI z + Int32.ofInt n = iI (z + n) := iI_add z n
  intro T hT X
  obtain ⟨t, a, b⟩ := k H locs ls' hP hD hS h' T hT X
  refine ⟨t, ?_, b⟩
  rw [← e2] at e'
  jvm_step X.here [X.here.top, hx, hb, d, hg, e']
  exact a
theorem r_iinc4 {G : zG} {cc : ByteArray} {own : String} {ret : Option FieldType} {nL fr lc : Nat} (C : zC G cc own ret nL fr lc) {M : zM} {r : List (Option Value)} {st : List Value} {pc : Nat} {a0 a1 a2 a3 : Option Value} {z n : Int} (h1 : zc1 a3 = true) (d : decode cc pc = .ok (.iinc 4 n, 3)) (k : VJ G M (pc + 3) (a0 :: a1 :: a2 :: a3 :: some (.int (iI (z + n))) :: r) st) : VJ G M pc (a0 :: a1 :: a2 :: a3 :: some (.int (iI z)) :: r) st := by
  obtain ⟨sd, E, P, l, p, e, R, s, m, args, below, meth, c⟩ := G
  obtain ⟨hx, hb, hr, hml, hown, hts, hK, hN, hlk, hR⟩ := C
  intro H locs ls hP hD hS hl
  obtain ⟨ls', e', h'⟩ := lh_store1 (v := .int (iI (z + n))) (i := 4) hl (by simp) rfl (lh_c1 (lo := (a0 :: a1 :: a2 :: a3 :: some (.int (iI z)) :: r)) (i := 4) (Or.inr ⟨3, _, rfl, rfl, h1⟩))
  have hg : ls[4]? = some (.val (.int (iI z))) := hl.2.2 4 _ rfl
  have e2 : iI z + Int32.ofInt n = iI (z + n) := iI_add z n
  intro T hT X
  obtain ⟨t, a, b⟩ := k H locs ls' hP hD hS h' T hT X
  refine ⟨t, ?_, b⟩
  rw [← e2] at e'
  jvm_step X.here [X.here.top, hx, hb, d, hg, e']
  exact a
theorem r_iinc5 {G : zG} {cc : ByteArray} {own : String} {ret : Option FieldType} {nL fr lc : Nat} (C : zC G cc own ret nL fr lc) {M : zM} {r : List (Option Value)} {st : List Value} {pc : Nat} {a0 a1 a2 a3 a4 : Option Value} {z n : Int} (h1 : zc1 a4 = true) (d : decode cc pc = .ok (.iinc 5 n, 3)) (k : VJ G M (pc + 3) (a0 :: a1 :: a2 :: a3 :: a4 :: some (.int (iI (z + n))) :: r) st) : VJ G M pc (a0 :: a1 :: a2 :: a3 :: a4 :: some (.int (iI z)) :: r) st := by
  obtain ⟨sd, E, P, l, p, e, R, s, m, args, below, meth, c⟩ := G
  obtain ⟨hx, hb, hr, hml, hown, hts, hK, hN, hlk, hR⟩ := C
  intro H locs ls hP hD hS hl
  obtain ⟨ls', e', h'⟩ := lh_store1 (v := .int (iI (z + n))) (i := 5) hl (by simp) rfl (lh_c1 (lo := (a0 :: a1 :: a2 :: a3 :: a4 :: some (.int (iI z)) :: r)) (i := 5) (Or.inr ⟨4, _, rfl, rfl, h1⟩))
  have hg : ls[5]? = some (.val (.int (iI z))) := hl.2.2 5 _ rfl
  have e2 : iI z + Int32.ofInt n = iI (z + n) := iI_add z n
  intro T hT X
  obtain ⟨t, a, b⟩ := k H locs ls' hP hD hS h' T hT X
  refine ⟨t, ?_, b⟩
  rw [← e2] at e'
  jvm_step X.here [X.here.top, hx, hb, d, hg, e']
  exact a
theorem r_iinc6 {G : zG} {cc : ByteArray} {own : String} {ret : Option FieldType} {nL fr lc : Nat} (C : zC G cc own ret nL fr lc) {M : zM} {r : List (Option Value)} {st : List Value} {pc : Nat} {a0 a1 a2 a3 a4 a5 : Option Value} {z n : Int} (h1 : zc1 a5 = true) (d : decode cc pc = .ok (.iinc 6 n, 3)) (k : VJ G M (pc + 3) (a0 :: a1 :: a2 :: a3 :: a4 :: a5 :: some (.int (iI (z + n))) :: r) st) : VJ G M pc (a0 :: a1 :: a2 :: a3 :: a4 :: a5 :: some (.int (iI z)) :: r) st := by
  obtain ⟨sd, E, P, l, p, e, R, s, m, args, below, meth, c⟩ := G
  obtain ⟨hx, hb, hr, hml, hown, hts, hK, hN, hlk, hR⟩ := C
  intro H locs ls hP hD hS hl
  obtain ⟨ls', e', h'⟩ := lh_store1 (v := .int (iI (z + n))) (i := 6) hl (by simp) rfl (lh_c1 (lo := (a0 :: a1 :: a2 :: a3 :: a4 :: a5 :: some (.int (iI z)) :: r)) (i := 6) (Or.inr ⟨5, _, rfl, rfl, h1⟩))
  have hg : ls[6]? = some (.val (.int (iI z))) := hl.2.2 6 _ rfl
  have e2 : iI z + Int32.ofInt n = iI (z + n) := iI_add z n
  intro T hT X
  obtain ⟨t, a, b⟩ := k H locs ls' hP hD hS h' T hT X
  refine ⟨t, ?_, b⟩
  rw [← e2] at e'
  jvm_step X.here [X.here.top, hx, hb, d, hg, e']
  exact a
theorem r_iinc7 {G : zG} {cc : ByteArray} {own : String} {ret : Option FieldType} {nL fr lc : Nat} (C : zC G cc own ret nL fr lc) {M : zM} {r : List (Option Value)} {st : List Value} {pc : Nat} {a0 a1 a2 a3 a4 a5 a6 : Option Value} {z n : Int} (h1 : zc1 a6 = true) (d : decode cc pc = .ok (.iinc 7 n, 3)) (k : VJ G M (pc + 3) (a0 :: a1 :: a2 :: a3 :: a4 :: a5 :: a6 :: some (.int (iI (z + n))) :: r) st) : VJ G M pc (a0 :: a1 :: a2 :: a3 :: a4 :: a5 :: a6 :: some (.int (iI z)) :: r) st := by
  obtain ⟨sd, E, P, l, p, e, R, s, m, args, below, meth, c⟩ := G
  obtain ⟨hx, hb, hr, hml, hown, hts, hK, hN, hlk, hR⟩ := C
  intro H locs ls hP hD hS hl
  obtain ⟨ls', e', h'⟩ := lh_store1 (v := .int (iI (z + n))) (i := 7) hl (by simp) rfl (lh_c1 (lo := (a0 :: a1 :: a2 :: a3 :: a4 :: a5 :: a6 :: some (.int (iI z)) :: r)) (i := 7) (Or.inr ⟨6, _, rfl, rfl, h1⟩))
  have hg : ls[7]? = some (.val (.int (iI z))) := hl.2.2 7 _ rfl
  have e2 : iI z + Int32.ofInt n = iI (z + n) := iI_add z n
  intro T hT X
  obtain ⟨t, a, b⟩ := k H locs ls' hP hD hS h' T hT X
  refine ⟨t, ?_, b⟩
  rw [← e2] at e'
  jvm_step X.here [X.here.top, hx, hb, d, hg, e']
  exact a
theorem r_iinc8 {G : zG} {cc : ByteArray} {own : String} {ret : Option FieldType} {nL fr lc : Nat} (C : zC G cc own ret nL fr lc) {M : zM} {r : List (Option Value)} {st : List Value} {pc : Nat} {a0 a1 a2 a3 a4 a5 a6 a7 : Option Value} {z n : Int} (h1 : zc1 a7 = true) (d : decode cc pc = .ok (.iinc 8 n, 3)) (k : VJ G M (pc + 3) (a0 :: a1 :: a2 :: a3 :: a4 :: a5 :: a6 :: a7 :: some (.int (iI (z + n))) :: r) st) : VJ G M pc (a0 :: a1 :: a2 :: a3 :: a4 :: a5 :: a6 :: a7 :: some (.int (iI z)) :: r) st := by
  obtain ⟨sd, E, P, l, p, e, R, s, m, args, below, meth, c⟩ := G
  obtain ⟨hx, hb, hr, hml, hown, hts, hK, hN, hlk, hR⟩ := C
  intro H locs ls hP hD hS hl
  obtain ⟨ls', e', h'⟩ := lh_store1 (v := .int (iI (z + n))) (i := 8) hl (by simp) rfl (lh_c1 (lo := (a0 :: a1 :: a2 :: a3 :: a4 :: a5 :: a6 :: a7 :: some (.int (iI z)) :: r)) (i := 8) (Or.inr ⟨7, _, rfl, rfl, h1⟩))
  have hg : ls[8]? = some (.val (.int (iI z))) := hl.2.2 8 _ rfl
  have e2 : iI z + Int32.ofInt n = iI (z + n) := iI_add z n
  intro T hT X
  obtain ⟨t, a, b⟩ := k H locs ls' hP hD hS h' T hT X
  refine ⟨t, ?_, b⟩
  rw [← e2] at e'
  jvm_step X.here [X.here.top, hx, hb, d, hg, e']
  exact a
theorem r_iinc9 {G : zG} {cc : ByteArray} {own : String} {ret : Option FieldType} {nL fr lc : Nat} (C : zC G cc own ret nL fr lc) {M : zM} {r : List (Option Value)} {st : List Value} {pc : Nat} {a0 a1 a2 a3 a4 a5 a6 a7 a8 : Option Value} {z n : Int} (h1 : zc1 a8 = true) (d : decode cc pc = .ok (.iinc 9 n, 3)) (k : VJ G M (pc + 3) (a0 :: a1 :: a2 :: a3 :: a4 :: a5 :: a6 :: a7 :: a8 :: some (.int (iI (z + n))) :: r) st) : VJ G M pc (a0 :: a1 :: a2 :: a3 :: a4 :: a5 :: a6 :: a7 :: a8 :: some (.int (iI z)) :: r) st := by
  obtain ⟨sd, E, P, l, p, e, R, s, m, args, below, meth, c⟩ := G
  obtain ⟨hx, hb, hr, hml, hown, hts, hK, hN, hlk, hR⟩ := C
  intro H locs ls hP hD hS hl
  obtain ⟨ls', e', h'⟩ := lh_store1 (v := .int (iI (z + n))) (i := 9) hl (by simp) rfl (lh_c1 (lo := (a0 :: a1 :: a2 :: a3 :: a4 :: a5 :: a6 :: a7 :: a8 :: some (.int (iI z)) :: r)) (i := 9) (Or.inr ⟨8, _, rfl, rfl, h1⟩))
  have hg : ls[9]? = some (.val (.int (iI z))) := hl.2.2 9 _ rfl
  have e2 : iI z + Int32.ofInt n = iI (z + n) := iI_add z n
  intro T hT X
  obtain ⟨t, a, b⟩ := k H locs ls' hP hD hS h' T hT X
  refine ⟨t, ?_, b⟩
  rw [← e2] at e'
  jvm_step X.here [X.here.top, hx, hb, d, hg, e']
  exact a
theorem r_iinc10 {G : zG} {cc : ByteArray} {own : String} {ret : Option FieldType} {nL fr lc : Nat} (C : zC G cc own ret nL fr lc) {M : zM} {r : List (Option Value)} {st : List Value} {pc : Nat} {a0 a1 a2 a3 a4 a5 a6 a7 a8 a9 : Option Value} {z n : Int} (h1 : zc1 a9 = true) (d : decode cc pc = .ok (.iinc 10 n, 3)) (k : VJ G M (pc + 3) (a0 :: a1 :: a2 :: a3 :: a4 :: a5 :: a6 :: a7 :: a8 :: a9 :: some (.int (iI (z + n))) :: r) st) : VJ G M pc (a0 :: a1 :: a2 :: a3 :: a4 :: a5 :: a6 :: a7 :: a8 :: a9 :: some (.int (iI z)) :: r) st := by
  obtain ⟨sd, E, P, l, p, e, R, s, m, args, below, meth, c⟩ := G
  obtain ⟨hx, hb, hr, hml, hown, hts, hK, hN, hlk, hR⟩ := C
  intro H locs ls hP hD hS hl
  obtain ⟨ls', e', h'⟩ := lh_store1 (v := .int (iI (z + n))) (i := 10) hl (by simp) rfl (lh_c1 (lo := (a0 :: a1 :: a2 :: a3 :: a4 :: a5 :: a6 :: a7 :: a8 :: a9 :: some (.int (iI z)) :: r)) (i := 10) (Or.inr ⟨9, _, rfl, rfl, h1⟩))
  have hg : ls[10]? = some (.val (.int (iI z))) := hl.2.2 10 _ rfl
  have e2 : iI z + Int32.ofInt n = iI (z + n) := iI_add z n
  intro T hT X
  obtain ⟨t, a, b⟩ := k H locs ls' hP hD hS h' T hT X
  refine ⟨t, ?_, b⟩
  rw [← e2] at e'
  jvm_step X.here [X.here.top, hx, hb, d, hg, e']
  exact a
theorem r_iinc11 {G : zG} {cc : ByteArray} {own : String} {ret : Option FieldType} {nL fr lc : Nat} (C : zC G cc own ret nL fr lc) {M : zM} {r : List (Option Value)} {st : List Value} {pc : Nat} {a0 a1 a2 a3 a4 a5 a6 a7 a8 a9 a10 : Option Value} {z n : Int} (h1 : zc1 a10 = true) (d : decode cc pc = .ok (.iinc 11 n, 3)) (k : VJ G M (pc + 3) (a0 :: a1 :: a2 :: a3 :: a4 :: a5 :: a6 :: a7 :: a8 :: a9 :: a10 :: some (.int (iI (z + n))) :: r) st) : VJ G M pc (a0 :: a1 :: a2 :: a3 :: a4 :: a5 :: a6 :: a7 :: a8 :: a9 :: a10 :: some (.int (iI z)) :: r) st := by
  obtain ⟨sd, E, P, l, p, e, R, s, m, args, below, meth, c⟩ := G
  obtain ⟨hx, hb, hr, hml, hown, hts, hK, hN, hlk, hR⟩ := C
  intro H locs ls hP hD hS hl
  obtain ⟨ls', e', h'⟩ := lh_store1 (v := .int (iI (z + n))) (i := 11) hl (by simp) rfl (lh_c1 (lo := (a0 :: a1 :: a2 :: a3 :: a4 :: a5 :: a6 :: a7 :: a8 :: a9 :: a10 :: some (.int (iI z)) :: r)) (i := 11) (Or.inr ⟨10, _, rfl, rfl, h1⟩))
  have hg : ls[11]? = some (.val (.int (iI z))) := hl.2.2 11 _ rfl
  have e2 : iI z + Int32.ofInt n = iI (z + n) := iI_add z n
  intro T hT X
  obtain ⟨t, a, b⟩ := k H locs ls' hP hD hS h' T hT X
  refine ⟨t, ?_, b⟩
  rw [← e2] at e'
  jvm_step X.here [X.here.top, hx, hb, d, hg, e']
  exact a
theorem r_iinc12 {G : zG} {cc : ByteArray} {own : String} {ret : Option FieldType} {nL fr lc : Nat} (C : zC G cc own ret nL fr lc) {M : zM} {r : List (Option Value)} {st : List Value} {pc : Nat} {a0 a1 a2 a3 a4 a5 a6 a7 a8 a9 a10 a11 : Option Value} {z n : Int} (h1 : zc1 a11 = true) (d : decode cc pc = .ok (.iinc 12 n, 3)) (k : VJ G M (pc + 3) (a0 :: a1 :: a2 :: a3 :: a4 :: a5 :: a6 :: a7 :: a8 :: a9 :: a10 :: a11 :: some (.int (iI (z + n))) :: r) st) : VJ G M pc (a0 :: a1 :: a2 :: a3 :: a4 :: a5 :: a6 :: a7 :: a8 :: a9 :: a10 :: a11 :: some (.int (iI z)) :: r) st := by
  obtain ⟨sd, E, P, l, p, e, R, s, m, args, below, meth, c⟩ := G
  obtain ⟨hx, hb, hr, hml, hown, hts, hK, hN, hlk, hR⟩ := C
  intro H locs ls hP hD hS hl
  obtain ⟨ls', e', h'⟩ := lh_store1 (v := .int (iI (z + n))) (i := 12) hl (by simp) rfl (lh_c1 (lo := (a0 :: a1 :: a2 :: a3 :: a4 :: a5 :: a6 :: a7 :: a8 :: a9 :: a10 :: a11 :: some (.int (iI z)) :: r)) (i := 12) (Or.inr ⟨11, _, rfl, rfl, h1⟩))
  have hg : ls[12]? = some (.val (.int (iI z))) := hl.2.2 12 _ rfl
  have e2 : iI z + Int32.ofInt n = iI (z + n) := iI_add z n
  intro T hT X
  obtain ⟨t, a, b⟩ := k H locs ls' hP hD hS h' T hT X
  refine ⟨t, ?_, b⟩
  rw [← e2] at e'
  jvm_step X.here [X.here.top, hx, hb, d, hg, e']
  exact a
theorem r_icmp_eq {G : zG} {cc : ByteArray} {own : String} {ret : Option FieldType} {nL fr lc : Nat} (C : zC G cc own ret nL fr lc) {M : zM} {lo : List (Option Value)} {st : List Value} {pc : Nat} {a b : Int} (ha : -2147483648 ≤ a ∧ a < 2147483648) (hb0 : -2147483648 ≤ b ∧ b < 2147483648) {off : Int} {tgt : Nat} (d : decode cc pc = .ok (.if_icmp .eq off, 3)) (ht : (pc : Int) + off = (tgt : Int)) (kt : a = b → VJ G M tgt lo st) (kf : ¬ (a = b) → VJ G M (pc + 3) lo st) : VJ G M pc lo (.int (iI b) :: .int (iI a) :: st) := by
  obtain ⟨sd, E, P, l, p, e, R, s, m, args, below, meth, c⟩ := G
  obtain ⟨hx, hb, hr, hml, hown, hts, hK, hN, hlk, hR⟩ := C
  intro H locs ls hP hD hS hl
  exact lv_icmp_eq hx hb d ht (fun q => kt ((iI_eq ha hb0).mp q) H locs ls hP hD hS hl) (fun q => kf (fun z => q ((iI_eq ha hb0).mpr z)) H locs ls hP hD hS hl)
theorem r_if_eq {G : zG} {cc : ByteArray} {own : String} {ret : Option FieldType} {nL fr lc : Nat} (C : zC G cc own ret nL fr lc) {M : zM} {lo : List (Option Value)} {st : List Value} {pc : Nat} {a : Int} (ha : -2147483648 ≤ a ∧ a < 2147483648) {off : Int} {tgt : Nat} (d : decode cc pc = .ok (.ifCond .eq off, 3)) (ht : (pc : Int) + off = (tgt : Int)) (kt : a = 0 → VJ G M tgt lo st) (kf : ¬ (a = 0) → VJ G M (pc + 3) lo st) : VJ G M pc lo (.int (iI a) :: st) := by
  obtain ⟨sd, E, P, l, p, e, R, s, m, args, below, meth, c⟩ := G
  obtain ⟨hx, hb, hr, hml, hown, hts, hK, hN, hlk, hR⟩ := C
  intro H locs ls hP hD hS hl
  exact lv_if_eq hx hb d ht (fun q => kt ((iI_eq (b := 0) ha (by decide)).mp q) H locs ls hP hD hS hl) (fun q => kf (fun z => q ((iI_eq (b := 0) ha (by decide)).mpr z)) H locs ls hP hD hS hl)
theorem r_lcmp_eq {G : zG} {cc : ByteArray} {own : String} {ret : Option FieldType} {nL fr lc : Nat} (C : zC G cc own ret nL fr lc) {M : zM} {lo : List (Option Value)} {st : List Value} {pc : Nat} {x y : Int64} {off : Int} {tgt : Nat} (d1 : decode cc pc = .ok (.lcmp, 1)) (d : decode cc (pc + 1) = .ok (.ifCond .eq off, 3)) (ht : ((pc + 1 : Nat) : Int) + off = (tgt : Int)) (kt : x = y → VJ G M tgt lo st) (kf : ¬ (x = y) → VJ G M (pc + 1 + 3) lo st) : VJ G M pc lo (.long y :: .long x :: st) := by
  obtain ⟨sd, E, P, l, p, e, R, s, m, args, below, meth, c⟩ := G
  obtain ⟨hx, hb, hr, hml, hown, hts, hK, hN, hlk, hR⟩ := C
  intro H locs ls hP hD hS hl
  refine W.lcmp hx hb d1 ?_
  exact lv_if_eq hx hb d ht (fun q => kt ((lg_cmp_eq x y).mp q) H locs ls hP hD hS hl) (fun q => kf (fun z => q ((lg_cmp_eq x y).mpr z)) H locs ls hP hD hS hl)
theorem r_icmp_ne {G : zG} {cc : ByteArray} {own : String} {ret : Option FieldType} {nL fr lc : Nat} (C : zC G cc own ret nL fr lc) {M : zM} {lo : List (Option Value)} {st : List Value} {pc : Nat} {a b : Int} (ha : -2147483648 ≤ a ∧ a < 2147483648) (hb0 : -2147483648 ≤ b ∧ b < 2147483648) {off : Int} {tgt : Nat} (d : decode cc pc = .ok (.if_icmp .ne off, 3)) (ht : (pc : Int) + off = (tgt : Int)) (kt : ¬ a = b → VJ G M tgt lo st) (kf : a = b → VJ G M (pc + 3) lo st) : VJ G M pc lo (.int (iI b) :: .int (iI a) :: st) := by
  obtain ⟨sd, E, P, l, p, e, R, s, m, args, below, meth, c⟩ := G
  obtain ⟨hx, hb, hr, hml, hown, hts, hK, hN, hlk, hR⟩ := C
  intro H locs ls hP hD hS hl
  exact lv_icmp_ne hx hb d ht (fun q => kt ((not_congr (iI_eq ha hb0)).mp q) H locs ls hP hD hS hl) (fun q => kf ((iI_eq ha hb0).mp q) H locs ls hP hD hS hl)
theorem r_if_ne {G : zG} {cc : ByteArray} {own : String} {ret : Option FieldType} {nL fr lc : Nat} (C : zC G cc own ret nL fr lc) {M : zM} {lo : List (Option Value)} {st : List Value} {pc : Nat} {a : Int} (ha : -2147483648 ≤ a ∧ a < 2147483648) {off : Int} {tgt : Nat} (d : decode cc pc = .ok (.ifCond .ne off, 3)) (ht : (pc : Int) + off = (tgt : Int)) (kt : ¬ a = 0 → VJ G M tgt lo st) (kf : a = 0 → VJ G M (pc + 3) lo st) : VJ G M pc lo (.int (iI a) :: st) := by
  obtain ⟨sd, E, P, l, p, e, R, s, m, args, below, meth, c⟩ := G
  obtain ⟨hx, hb, hr, hml, hown, hts, hK, hN, hlk, hR⟩ := C
  intro H locs ls hP hD hS hl
  exact lv_if_ne hx hb d ht (fun q => kt ((not_congr (iI_eq (b := 0) ha (by decide))).mp q) H locs ls hP hD hS hl) (fun q => kf ((iI_eq (b := 0) ha (by decide)).mp q) H locs ls hP hD hS hl)
theorem r_lcmp_ne {G : zG} {cc : ByteArray} {own : String} {ret : Option FieldType} {nL fr lc : Nat} (C : zC G cc own ret nL fr lc) {M : zM} {lo : List (Option Value)} {st : List Value} {pc : Nat} {x y : Int64} {off : Int} {tgt : Nat} (d1 : decode cc pc = .ok (.lcmp, 1)) (d : decode cc (pc + 1) = .ok (.ifCond .ne off, 3)) (ht : ((pc + 1 : Nat) : Int) + off = (tgt : Int)) (kt : ¬ x = y → VJ G M tgt lo st) (kf : x = y → VJ G M (pc + 1 + 3) lo st) : VJ G M pc lo (.long y :: .long x :: st) := by
  obtain ⟨sd, E, P, l, p, e, R, s, m, args, below, meth, c⟩ := G
  obtain ⟨hx, hb, hr, hml, hown, hts, hK, hN, hlk, hR⟩ := C
  intro H locs ls hP hD hS hl
  refine W.lcmp hx hb d1 ?_
  exact lv_if_ne hx hb d ht (fun q => kt ((not_congr (lg_cmp_eq x y)).mp q) H locs ls hP hD hS hl) (fun q => kf ((lg_cmp_eq x y).mp q) H locs ls hP hD hS hl)
theorem r_icmp_lt {G : zG} {cc : ByteArray} {own : String} {ret : Option FieldType} {nL fr lc : Nat} (C : zC G cc own ret nL fr lc) {M : zM} {lo : List (Option Value)} {st : List Value} {pc : Nat} {a b : Int} (ha : -2147483648 ≤ a ∧ a < 2147483648) (hb0 : -2147483648 ≤ b ∧ b < 2147483648) {off : Int} {tgt : Nat} (d : decode cc pc = .ok (.if_icmp .lt off, 3)) (ht : (pc : Int) + off = (tgt : Int)) (kt : a < b → VJ G M tgt lo st) (kf : ¬ (a < b) → VJ G M (pc + 3) lo st) : VJ G M pc lo (.int (iI b) :: .int (iI a) :: st) := by
  obtain ⟨sd, E, P, l, p, e, R, s, m, args, below, meth, c⟩ := G
  obtain ⟨hx, hb, hr, hml, hown, hts, hK, hN, hlk, hR⟩ := C
  intro H locs ls hP hD hS hl
  exact lv_icmp_lt hx hb d ht (fun q => kt ((iI_lt ha hb0).mp q) H locs ls hP hD hS hl) (fun q => kf (fun z => q ((iI_lt ha hb0).mpr z)) H locs ls hP hD hS hl)
theorem r_if_lt {G : zG} {cc : ByteArray} {own : String} {ret : Option FieldType} {nL fr lc : Nat} (C : zC G cc own ret nL fr lc) {M : zM} {lo : List (Option Value)} {st : List Value} {pc : Nat} {a : Int} (ha : -2147483648 ≤ a ∧ a < 2147483648) {off : Int} {tgt : Nat} (d : decode cc pc = .ok (.ifCond .lt off, 3)) (ht : (pc : Int) + off = (tgt : Int)) (kt : a < 0 → VJ G M tgt lo st) (kf : ¬ (a < 0) → VJ G M (pc + 3) lo st) : VJ G M pc lo (.int (iI a) :: st) := by
  obtain ⟨sd, E, P, l, p, e, R, s, m, args, below, meth, c⟩ := G
  obtain ⟨hx, hb, hr, hml, hown, hts, hK, hN, hlk, hR⟩ := C
  intro H locs ls hP hD hS hl
  exact lv_if_lt hx hb d ht (fun q => kt ((iI_lt (b := 0) ha (by decide)).mp q) H locs ls hP hD hS hl) (fun q => kf (fun z => q ((iI_lt (b := 0) ha (by decide)).mpr z)) H locs ls hP hD hS hl)
theorem r_lcmp_lt {G : zG} {cc : ByteArray} {own : String} {ret : Option FieldType} {nL fr lc : Nat} (C : zC G cc own ret nL fr lc) {M : zM} {lo : List (Option Value)} {st : List Value} {pc : Nat} {x y : Int64} {off : Int} {tgt : Nat} (d1 : decode cc pc = .ok (.lcmp, 1)) (d : decode cc (pc + 1) = .ok (.ifCond .lt off, 3)) (ht : ((pc + 1 : Nat) : Int) + off = (tgt : Int)) (kt : x < y → VJ G M tgt lo st) (kf : ¬ (x < y) → VJ G M (pc + 1 + 3) lo st) : VJ G M pc lo (.long y :: .long x :: st) := by
  obtain ⟨sd, E, P, l, p, e, R, s, m, args, below, meth, c⟩ := G
  obtain ⟨hx, hb, hr, hml, hown, hts, hK, hN, hlk, hR⟩ := C
  intro H locs ls hP hD hS hl
  refine W.lcmp hx hb d1 ?_
  exact lv_if_lt hx hb d ht (fun q => kt ((lg_cmp_lt x y).mp q) H locs ls hP hD hS hl) (fun q => kf (fun z => q ((lg_cmp_lt x y).mpr z)) H locs ls hP hD hS hl)
theorem r_icmp_ge {G : zG} {cc : ByteArray} {own : String} {ret : Option FieldType} {nL fr lc : Nat} (C : zC G cc own ret nL fr lc) {M : zM} {lo : List (Option Value)} {st : List Value} {pc : Nat} {a b : Int} (ha : -2147483648 ≤ a ∧ a < 2147483648) (hb0 : -2147483648 ≤ b ∧ b < 2147483648) {off : Int} {tgt : Nat} (d : decode cc pc = .ok (.if_icmp .ge off, 3)) (ht : (pc : Int) + off = (tgt : Int)) (kt : b ≤ a → VJ G M tgt lo st) (kf : ¬ (b ≤ a) → VJ G M (pc + 3) lo st) : VJ G M pc lo (.int (iI b) :: .int (iI a) :: st) := by
  obtain ⟨sd, E, P, l, p, e, R, s, m, args, below, meth, c⟩ := G
  obtain ⟨hx, hb, hr, hml, hown, hts, hK, hN, hlk, hR⟩ := C
  intro H locs ls hP hD hS hl
  exact lv_icmp_ge hx hb d ht (fun q => kt ((iI_le hb0 ha).mp q) H locs ls hP hD hS hl) (fun q => kf (fun z => q ((iI_le hb0 ha).mpr z)) H locs ls hP hD hS hl)
theorem r_if_ge {G : zG} {cc : ByteArray} {own : String} {ret : Option FieldType} {nL fr lc : Nat} (C : zC G cc own ret nL fr lc) {M : zM} {lo : List (Option Value)} {st : List Value} {pc : Nat} {a : Int} (ha : -2147483648 ≤ a ∧ a < 2147483648) {off : Int} {tgt : Nat} (d : decode cc pc = .ok (.ifCond .ge off, 3)) (ht : (pc : Int) + off = (tgt : Int)) (kt : 0 ≤ a → VJ G M tgt lo st) (kf : ¬ (0 ≤ a) → VJ G M (pc + 3) lo st) : VJ G M pc lo (.int (iI a) :: st) := by
  obtain ⟨sd, E, P, l, p, e, R, s, m, args, below, meth, c⟩ := G
  obtain ⟨hx, hb, hr, hml, hown, hts, hK, hN, hlk, hR⟩ := C
  intro H locs ls hP hD hS hl
  exact lv_if_ge hx hb d ht (fun q => kt ((iI_le (a := 0) (by decide) ha).mp q) H locs ls hP hD hS hl) (fun q => kf (fun z => q ((iI_le (a := 0) (by decide) ha).mpr z)) H locs ls hP hD hS hl)
theorem r_lcmp_ge {G : zG} {cc : ByteArray} {own : String} {ret : Option FieldType} {nL fr lc : Nat} (C : zC G cc own ret nL fr lc) {M : zM} {lo : List (Option Value)} {st : List Value} {pc : Nat} {x y : Int64} {off : Int} {tgt : Nat} (d1 : decode cc pc = .ok (.lcmp, 1)) (d : decode cc (pc + 1) = .ok (.ifCond .ge off, 3)) (ht : ((pc + 1 : Nat) : Int) + off = (tgt : Int)) (kt : y ≤ x → VJ G M tgt lo st) (kf : ¬ (y ≤ x) → VJ G M (pc + 1 + 3) lo st) : VJ G M pc lo (.long y :: .long x :: st) := by
  obtain ⟨sd, E, P, l, p, e, R, s, m, args, below, meth, c⟩ := G
  obtain ⟨hx, hb, hr, hml, hown, hts, hK, hN, hlk, hR⟩ := C
  intro H locs ls hP hD hS hl
  refine W.lcmp hx hb d1 ?_
  exact lv_if_ge hx hb d ht (fun q => kt ((lg_cmp_ge x y).mp q) H locs ls hP hD hS hl) (fun q => kf (fun z => q ((lg_cmp_ge x y).mpr z)) H locs ls hP hD hS hl)
theorem r_icmp_gt {G : zG} {cc : ByteArray} {own : String} {ret : Option FieldType} {nL fr lc : Nat} (C : zC G cc own ret nL fr lc) {M : zM} {lo : List (Option Value)} {st : List Value} {pc : Nat} {a b : Int} (ha : -2147483648 ≤ a ∧ a < 2147483648) (hb0 : -2147483648 ≤ b ∧ b < 2147483648) {off : Int} {tgt : Nat} (d : decode cc pc = .ok (.if_icmp .gt off, 3)) (ht : (pc : Int) + off = (tgt : Int)) (kt : b < a → VJ G M tgt lo st) (kf : ¬ (b < a) → VJ G M (pc + 3) lo st) : VJ G M pc lo (.int (iI b) :: .int (iI a) :: st) := by
  obtain ⟨sd, E, P, l, p, e, R, s, m, args, below, meth, c⟩ := G
  obtain ⟨hx, hb, hr, hml, hown, hts, hK, hN, hlk, hR⟩ := C
  intro H locs ls hP hD hS hl
  exact lv_icmp_gt hx hb d ht (fun q => kt ((iI_lt hb0 ha).mp q) H locs ls hP hD hS hl) (fun q => kf (fun z => q ((iI_lt hb0 ha).mpr z)) H locs ls hP hD hS hl)
theorem r_if_gt {G : zG} {cc : ByteArray} {own : String} {ret : Option FieldType} {nL fr lc : Nat} (C : zC G cc own ret nL fr lc) {M : zM} {lo : List (Option Value)} {st : List Value} {pc : Nat} {a : Int} (ha : -2147483648 ≤ a ∧ a < 2147483648) {off : Int} {tgt : Nat} (d : decode cc pc = .ok (.ifCond .gt off, 3)) (ht : (pc : Int) + off = (tgt : Int)) (kt : 0 < a → VJ G M tgt lo st) (kf : ¬ (0 < a) → VJ G M (pc + 3) lo st) : VJ G M pc lo (.int (iI a) :: st) := by
  obtain ⟨sd, E, P, l, p, e, R, s, m, args, below, meth, c⟩ := G
  obtain ⟨hx, hb, hr, hml, hown, hts, hK, hN, hlk, hR⟩ := C
  intro H locs ls hP hD hS hl
  exact lv_if_gt hx hb d ht (fun q => kt ((iI_lt (a := 0) (by decide) ha).mp q) H locs ls hP hD hS hl) (fun q => kf (fun z => q ((iI_lt (a := 0) (by decide) ha).mpr z)) H locs ls hP hD hS hl)
theorem r_lcmp_gt {G : zG} {cc : ByteArray} {own : String} {ret : Option FieldType} {nL fr lc : Nat} (C : zC G cc own ret nL fr lc) {M : zM} {lo : List (Option Value)} {st : List Value} {pc : Nat} {x y : Int64} {off : Int} {tgt : Nat} (d1 : decode cc pc = .ok (.lcmp, 1)) (d : decode cc (pc + 1) = .ok (.ifCond .gt off, 3)) (ht : ((pc + 1 : Nat) : Int) + off = (tgt : Int)) (kt : y < x → VJ G M tgt lo st) (kf : ¬ (y < x) → VJ G M (pc + 1 + 3) lo st) : VJ G M pc lo (.long y :: .long x :: st) := by
  obtain ⟨sd, E, P, l, p, e, R, s, m, args, below, meth, c⟩ := G
  obtain ⟨hx, hb, hr, hml, hown, hts, hK, hN, hlk, hR⟩ := C
  intro H locs ls hP hD hS hl
  refine W.lcmp hx hb d1 ?_
  exact lv_if_gt hx hb d ht (fun q => kt ((lg_cmp_gt x y).mp q) H locs ls hP hD hS hl) (fun q => kf (fun z => q ((lg_cmp_gt x y).mpr z)) H locs ls hP hD hS hl)
theorem r_icmp_le {G : zG} {cc : ByteArray} {own : String} {ret : Option FieldType} {nL fr lc : Nat} (C : zC G cc own ret nL fr lc) {M : zM} {lo : List (Option Value)} {st : List Value} {pc : Nat} {a b : Int} (ha : -2147483648 ≤ a ∧ a < 2147483648) (hb0 : -2147483648 ≤ b ∧ b < 2147483648) {off : Int} {tgt : Nat} (d : decode cc pc = .ok (.if_icmp .le off, 3)) (ht : (pc : Int) + off = (tgt : Int)) (kt : a ≤ b → VJ G M tgt lo st) (kf : ¬ (a ≤ b) → VJ G M (pc + 3) lo st) : VJ G M pc lo (.int (iI b) :: .int (iI a) :: st) := by
  obtain ⟨sd, E, P, l, p, e, R, s, m, args, below, meth, c⟩ := G
  obtain ⟨hx, hb, hr, hml, hown, hts, hK, hN, hlk, hR⟩ := C
  intro H locs ls hP hD hS hl
  exact lv_icmp_le hx hb d ht (fun q => kt ((iI_le ha hb0).mp q) H locs ls hP hD hS hl) (fun q => kf (fun z => q ((iI_le ha hb0).mpr z)) H locs ls hP hD hS hl)
theorem r_if_le {G : zG} {cc : ByteArray} {own : String} {ret : Option FieldType} {nL fr lc : Nat} (C : zC G cc own ret nL fr lc) {M : zM} {lo : List (Option Value)} {st : List Value} {pc : Nat} {a : Int} (ha : -2147483648 ≤ a ∧ a < 2147483648) {off : Int} {tgt : Nat} (d : decode cc pc = .ok (.ifCond .le off, 3)) (ht : (pc : Int) + off = (tgt : Int)) (kt : a ≤ 0 → VJ G M tgt lo st) (kf : ¬ (a ≤ 0) → VJ G M (pc + 3) lo st) : VJ G M pc lo (.int (iI a) :: st) := by
  obtain ⟨sd, E, P, l, p, e, R, s, m, args, below, meth, c⟩ := G
  obtain ⟨hx, hb, hr, hml, hown, hts, hK, hN, hlk, hR⟩ := C
  intro H locs ls hP hD hS hl
  exact lv_if_le hx hb d ht (fun q => kt ((iI_le (b := 0) ha (by decide)).mp q) H locs ls hP hD hS hl) (fun q => kf (fun z => q ((iI_le (b := 0) ha (by decide)).mpr z)) H locs ls hP hD hS hl)
theorem r_lcmp_le {G : zG} {cc : ByteArray} {own : String} {ret : Option FieldType} {nL fr lc : Nat} (C : zC G cc own ret nL fr lc) {M : zM} {lo : List (Option Value)} {st : List Value} {pc : Nat} {x y : Int64} {off : Int} {tgt : Nat} (d1 : decode cc pc = .ok (.lcmp, 1)) (d : decode cc (pc + 1) = .ok (.ifCond .le off, 3)) (ht : ((pc + 1 : Nat) : Int) + off = (tgt : Int)) (kt : x ≤ y → VJ G M tgt lo st) (kf : ¬ (x ≤ y) → VJ G M (pc + 1 + 3) lo st) : VJ G M pc lo (.long y :: .long x :: st) := by
  obtain ⟨sd, E, P, l, p, e, R, s, m, args, below, meth, c⟩ := G
  obtain ⟨hx, hb, hr, hml, hown, hts, hK, hN, hlk, hR⟩ := C
  intro H locs ls hP hD hS hl
  refine W.lcmp hx hb d1 ?_
  exact lv_if_le hx hb d ht (fun q => kt ((lg_cmp_le x y).mp q) H locs ls hP hD hS hl) (fun q => kf (fun z => q ((lg_cmp_le x y).mpr z)) H locs ls hP hD hS hl)
theorem r_ifeqB {G : zG} {cc : ByteArray} {own : String} {ret : Option FieldType} {nL fr lc : Nat} (C : zC G cc own ret nL fr lc) {M : zM} {lo : List (Option Value)} {st : List Value} {pc : Nat} {B : Prop} [Decidable B] {off : Int} {tgt : Nat} (d : decode cc pc = .ok (.ifCond .eq off, 3)) (ht : (pc : Int) + off = (tgt : Int)) (kt : ¬ B → VJ G M tgt lo st) (kf : B → VJ G M (pc + 3) lo st) : VJ G M pc lo (.int (iI (zb B)) :: st) := by
  refine r_if_eq C (by rcases zb_01 B with h | h <;> rw [h] <;> decide) d ht (fun q => kt (fun b => by rw [zb_pos b] at q; exact absurd q (by decide))) (fun q => kf (Classical.byContradiction fun b => q (zb_neg b)))
theorem r_ifneB {G : zG} {cc : ByteArray} {own : String} {ret : Option FieldType} {nL fr lc : Nat} (C : zC G cc own ret nL fr lc) {M : zM} {lo : List (Option Value)} {st : List Value} {pc : Nat} {B : Prop} [Decidable B] {off : Int} {tgt : Nat} (d : decode cc pc = .ok (.ifCond .ne off, 3)) (ht : (pc : Int) + off = (tgt : Int)) (kt : B → VJ G M tgt lo st) (kf : ¬ B → VJ G M (pc + 3) lo st) : VJ G M pc lo (.int (iI (zb B)) :: st) := by
  refine r_if_ne C (by rcases zb_01 B with h | h <;> rw [h] <;> decide) d ht (fun q => kt (Classical.byContradiction fun b => q (zb_neg b))) (fun q => kf (fun b => by rw [zb_pos b] at q; exact absurd q (by decide)))
theorem r_goto {G : zG} {cc : ByteArray} {own : String} {ret : Option FieldType} {nL fr lc : Nat} (C : zC G cc own ret nL fr lc) {M : zM} {lo : List (Option Value)} {st : List Value} {pc : Nat} {off : Int} {tgt : Nat} (d : decode cc pc = .ok (.goto off, 3)) (ht : (pc : Int) + off = (tgt : Int)) (k : VJ G M tgt lo st) : VJ G M pc lo st := by
  obtain ⟨sd, E, P, l, p, e, R, s, m, args, below, meth, c⟩ := G
  obtain ⟨hx, hb, hr, hml, hown, hts, hK, hN, hlk, hR⟩ := C
  intro H locs ls hP hD hS hl
  exact lv_goto hx hb d ht (k H locs ls hP hD hS hl)
theorem r_tabIn {G : zG} {cc : ByteArray} {own : String} {ret : Option FieldType} {nL fr lc : Nat} (C : zC G cc own ret nL fr lc) {M : zM} {lo : List (Option Value)} {st : List Value} {pc : Nat} {a : Int} (ha : -2147483648 ≤ a ∧ a < 2147483648) {dflt low hi : Int} {offs : Array Int} {len : Nat} {off : Int} {tgt : Nat} (d : decode cc pc = .ok (.tableswitch dflt low hi offs, len)) (h1 : low ≤ a) (h2 : a ≤ hi) (ho : offs[(a - low).toNat]? = some off) (ht : (pc : Int) + off = (tgt : Int)) (k : VJ G M tgt lo st) : VJ G M pc lo (.int (iI a) :: st) := by
  obtain ⟨sd, E, P, l, p, e, R, s, m, args, below, meth, c⟩ := G
  obtain ⟨hx, hb, hr, hml, hown, hts, hK, hN, hlk, hR⟩ := C
  intro H locs ls hP hD hS hl
  exact lv_tableIn hx hb d (by rw [iI_toInt ha]; omega) (by rw [iI_toInt ha]; omega) (by rw [iI_toInt ha]; exact ho) ht (k H locs ls hP hD hS hl)
theorem r_tabOut {G : zG} {cc : ByteArray} {own : String} {ret : Option FieldType} {nL fr lc : Nat} (C : zC G cc own ret nL fr lc) {M : zM} {lo : List (Option Value)} {st : List Value} {pc : Nat} {a : Int} (ha : -2147483648 ≤ a ∧ a < 2147483648) {dflt low hi : Int} {offs : Array Int} {len : Nat} {tgt : Nat} (d : decode cc pc = .ok (.tableswitch dflt low hi offs, len)) (h : a < low ∨ hi < a) (ht : (pc : Int) + dflt = (tgt : Int)) (k : VJ G M tgt lo st) : VJ G M pc lo (.int (iI a) :: st) := by
  obtain ⟨sd, E, P, l, p, e, R, s, m, args, below, meth, c⟩ := G
  obtain ⟨hx, hb, hr, hml, hown, hts, hK, hN, hlk, hR⟩ := C
  intro H locs ls hP hD hS hl
  exact lv_tableOut hx hb d (by rw [iI_toInt ha]; exact h) ht (k H locs ls hP hD hS hl)
theorem r_iret {G : zG} {cc : ByteArray} {own : String} {nL fr lc : Nat} (C : zC G cc own (some .int) nL fr lc) {M : zM} {lo : List (Option Value)} {st : List Value} {pc : Nat} {p0 : Int → zM → Prop} {z : Int} (hQ : G.2.2.1 = zPi p0) (h : p0 z M) (d : decode cc pc = .ok (.ireturn, 1)) : VJ G M pc lo [.int (iI z)] := by
  obtain ⟨sd, E, P, l, p, e, R, s, m, args, below, meth, c⟩ := G
  obtain ⟨hx, hb, hr, hml, hown, hts, hK, hN, hlk, hR⟩ := C
  intro H locs ls hP hD hS hl
  have hQ : P = zPi p0 := hQ
  subst hQ
  exact W.iret (v := iI z) hx hb hr (fun t ht hW => ⟨⟨_, M, rfl, ⟨z, rfl, h⟩, by rw [ht]; exact hP, hD, va_K.moved hW.alike hK, hN.warm hW⟩, hS.F ht⟩) hS.2.2 d
theorem r_zret {G : zG} {cc : ByteArray} {own : String} {nL fr lc : Nat} (C : zC G cc own (some .boolean) nL fr lc) {M : zM} {lo : List (Option Value)} {st : List Value} {pc : Nat} {p0 : Int → zM → Prop} {z : Int} (hQ : G.2.2.1 = zPi p0) (h01 : z = 0 ∨ z = 1) (h : p0 z M) (d : decode cc pc = .ok (.ireturn, 1)) : VJ G M pc lo [.int (iI z)] := by
  obtain ⟨sd, E, P, l, p, e, R, s, m, args, below, meth, c⟩ := G
  obtain ⟨hx, hb, hr, hml, hown, hts, hK, hN, hlk, hR⟩ := C
  intro H locs ls hP hD hS hl
  have hQ : P = zPi p0 := hQ
  subst hQ
  exact W.zret (v := iI z) (ty := .boolean) hx hb hr (by rcases h01 with rfl | rfl <;> rfl) (fun t ht hW => ⟨⟨_, M, rfl, ⟨z, rfl, h⟩, by rw [ht]; exact hP, hD, va_K.moved hW.alike hK, hN.warm hW⟩, hS.F ht⟩) hS.2.2 d
theorem r_lret {G : zG} {cc : ByteArray} {own : String} {nL fr lc : Nat} (C : zC G cc own (some .long) nL fr lc) {M : zM} {lo : List (Option Value)} {st : List Value} {pc : Nat} {p0 : Int64 → zM → Prop} {x : Int64} (hQ : G.2.2.1 = zPl p0) (h : p0 x M) (d : decode cc pc = .ok (.lreturn, 1)) : VJ G M pc lo [.long x] := by
  obtain ⟨sd, E, P, l, p, e, R, s, m, args, below, meth, c⟩ := G
  obtain ⟨hx, hb, hr, hml, hown, hts, hK, hN, hlk, hR⟩ := C
  intro H locs ls hP hD hS hl
  have hQ : P = zPl p0 := hQ
  subst hQ
  exact W.lret (v := x) hx hb hr (fun t ht hW => ⟨⟨_, M, rfl, ⟨x, rfl, h⟩, by rw [ht]; exact hP, hD, va_K.moved hW.alike hK, hN.warm hW⟩, hS.F ht⟩) hS.2.2 d
theorem r_vret {G : zG} {cc : ByteArray} {own : String} {nL fr lc : Nat} (C : zC G cc own none nL fr lc) {M : zM} {lo : List (Option Value)} {st : List Value} {pc : Nat} {p0 : zM → Prop} (hQ : G.2.2.1 = zPv p0) (h : p0 M) (d : decode cc pc = .ok (.return_, 1)) : VJ G M pc lo [] := by
  obtain ⟨sd, E, P, l, p, e, R, s, m, args, below, meth, c⟩ := G
  obtain ⟨hx, hb, hr, hml, hown, hts, hK, hN, hlk, hR⟩ := C
  intro H locs ls hP hD hS hl
  have hQ : P = zPv p0 := hQ
  subst hQ
  exact W.vret hx hb hr (fun t ht hW => ⟨⟨_, M, rfl, ⟨rfl, h⟩, by rw [ht]; exact hP, hD, va_K.moved hW.alike hK, hN.warm hW⟩, hS.F ht⟩) hS.2.2 d
end
section
theorem fsO_at {E : zE} {I : Nat → Int} {J : Nat → Int64} {ds : List (Nat × Nat)} {i : Nat} {d : Nat × Nat} (h : ds[i]? = some d) : (fsO E I J ds)[i]? = some (fv E I J d i) := by
  have hl : i < ds.length := (List.getElem?_eq_some_iff.mp h).1
  unfold fsO
  rw [List.getElem?_map, List.getElem?_range hl]
  simp [List.getD, h]
theorem fsO_len {E : zE} {I : Nat → Int} {J : Nat → Int64} {ds : List (Nat × Nat)} : (fsO E I J ds).length = ds.length := by simp [fsO]
theorem fsO_set {E : zE} {I I' : Nat → Int} {J J' : Nat → Int64} {ds : List (Nat × Nat)} {i : Nat} {d : Nat × Nat} (h : ds[i]? = some d) (hI : ∀ j, j ≠ i → I' j = I j) (hJ : ∀ j, j ≠ i → J' j = J j) : fsO E I' J' ds = (fsO E I J ds).set i (fv E I' J' d i) := by
  have hl : i < ds.length := (List.getElem?_eq_some_iff.mp h).1
  apply List.ext_getElem?
  intro j
  by_cases e : j = i
  · subst e
    rw [List.getElem?_set_self (by rw [fsO_len]; exact hl), fsO_at h]
  · rw [List.getElem?_set_ne (fun q => e q.symm)]
    by_cases hj : j < ds.length
    · have hg : ds[j]? = some ds[j] := List.getElem?_eq_getElem hj
      rw [fsO_at hg, fsO_at hg]
      unfold fv
      rw [hI j e, hJ j e]
    · rw [List.getElem?_eq_none (by rw [fsO_len]; omega), List.getElem?_eq_none (by rw [fsO_len]; omega)]
theorem zI_same (M : zM) (k i : Nat) (z : Int) : (zI M k i z).1 k i = z := by simp [zI]
theorem zI_row {M : zM} {k i j : Nat} {z : Int} (h : j ≠ i) : (zI M k i z).1 k j = M.1 k j := by simp [zI, h]
theorem zI_ne {M : zM} {k i a b : Nat} {z : Int} (h : a ≠ k) : (zI M k i z).1 a b = M.1 a b := by simp [zI, h]
theorem zI_2 (M : zM) (k i : Nat) (z : Int) : (zI M k i z).2 = M.2 := rfl
theorem zJ_same (M : zM) (k i : Nat) (x : Int64) : (zJ M k i x).2 k i = x := by simp [zJ]
theorem zJ_row {M : zM} {k i j : Nat} {x : Int64} (h : j ≠ i) : (zJ M k i x).2 k j = M.2 k j := by simp [zJ, h]
theorem zJ_ne {M : zM} {k i a b : Nat} {x : Int64} (h : a ≠ k) : (zJ M k i x).2 a b = M.2 a b := by simp [zJ, h]
theorem zJ_1 (M : zM) (k i : Nat) (x : Int64) : (zJ M k i x).1 = M.1 := rfl
theorem zI_at (M : zM) (k i a b : Nat) (z : Int) : (zI M k i z).1 a b = if a = k ∧ b = i then z else M.1 a b := rfl
theorem zJ_at (M : zM) (k i a b : Nat) (x : Int64) : (zJ M k i x).2 a b = if a = k ∧ b = i then x else M.2 a b := rfl
theorem zce_I {sd : zSd} {E : zE} {M : zM} {k i j : Nat} {z : Int} (h : j ≠ k) : zce sd E (zI M k i z) j = zce sd E M j := by
  have e : (zI M k i z).1 j = M.1 j := funext fun b => zI_ne h
  unfold zce
  rw [e, zI_2]
theorem zce_J {sd : zSd} {E : zE} {M : zM} {k i j : Nat} {x : Int64} (h : j ≠ k) : zce sd E (zJ M k i x) j = zce sd E M j := by
  have e : (zJ M k i x).2 j = M.2 j := funext fun b => zJ_ne h
  unfold zce
  rw [e, zJ_1]
theorem zce_o {sd : zSd} {E : zE} {M : zM} {k ci : Nat} (h : sd.2.1 k = (5 + ci, 0)) : zce sd E M k = .inr (ci, fsO E (M.1 k) (M.2 k) (sd.2.2.1 k)) := by
  unfold zce
  rw [h]
  rw [if_neg (by show ¬ 5 + ci = 0; omega), if_neg (by show ¬ 5 + ci = 1; omega), if_neg (by show ¬ 5 + ci = 2; omega), if_neg (by show ¬ 5 + ci = 3; omega), if_neg (by show ¬ 5 + ci = 4; omega)]
  show Sum.inr (5 + ci - 5, _) = _
  rw [Nat.add_sub_cancel_left]
theorem zce_i {sd : zSd} {E : zE} {M : zM} {k n : Nat} (h : sd.2.1 k = (0, n)) : zce sd E M k = .inl (E.2.1 0, n, .inl (fun i => iI (M.1 k i))) := by
  unfold zce; rw [h]; rfl
theorem zce_z {sd : zSd} {E : zE} {M : zM} {k n : Nat} (h : sd.2.1 k = (1, n)) : zce sd E M k = .inl (E.2.1 1, n, .inl (fun i => iI (M.1 k i))) := by
  unfold zce; rw [h]; rfl
theorem zce_l {sd : zSd} {E : zE} {M : zM} {k n : Nat} (h : sd.2.1 k = (2, n)) : zce sd E M k = .inl (E.2.1 2, n, .inr (.inl (fun i => M.2 k i))) := by
  unfold zce; rw [h]; rfl
theorem zce_b {sd : zSd} {E : zE} {M : zM} {k n : Nat} (h : sd.2.1 k = (3, n)) : zce sd E M k = .inl (E.2.1 3, n, .inr (.inr (.inr (.inr (fun i => some (E.2.2 (sd.2.2.2 k i))))))) := by
  unfold zce; rw [h]; rfl
theorem zce_r {sd : zSd} {E : zE} {M : zM} {k n : Nat} (h : sd.2.1 k = (4, n)) : zce sd E M k = .inl (E.2.1 4, n, .inr (.inr (.inr (.inr (fun i => some (E.2.2 (sd.2.2.2 k i))))))) := by
  unfold zce; rw [h]; rfl
theorem iI_upd {I : Nat → Int} {n : Nat} {z : Int} : upd (fun i => iI (I i)) n (iI z) = fun i => iI (if i = n then z else I i) := by
  funext j
  by_cases h : j = n
  · simp [upd, h]
  · simp [upd, h]
/-- a field is read -/
theorem z_get {G : zG} {cc : ByteArray} {own : String} {ret : Option FieldType} {nL fr lc : Nat} (C : zC G cc own ret nL fr lc) {M : zM} {lo : List (Option Value)} {st : List Value} {pc : Nat} {k ci slot idx Nf : Nat} {Cn : String} {T : u_T} {fd : Nat × Nat} (hk : k < G.1.1) (hs : G.1.2.1 k = (5 + ci, 0)) (hd : (G.1.2.2.1 k)[slot]? = some fd) (hci : zcl[ci]? = some (Cn, T, Nf)) (hlay : ∀ w ∈ u_ws Cn T Nf, w ∈ tb) (hsl : slot < Nf) (hlink : Cond.fieldLink own idx (T slot).1 (T slot).2.1 (T slot).2.2.1 ∈ tb) (d : decode cc pc = .ok (.getfield idx, 3)) (kk : VJ G M (pc + 3) lo (fv G.2.1 (M.1 k) (M.2 k) fd slot :: st)) : VJ G M pc lo (.ref (zad G k) :: st) := by
  obtain ⟨sd, E, P, l, p, e, R, s, m, args, below, meth, c⟩ := G
  obtain ⟨hx, hb, hr, hml, hown, hts, hK, hN, hlk, hR⟩ := C
  intro H locs ls hP hD hS hl
  have he : (zw sd E M)[k]? = some (E.2.2 k, .inr (ci, fsO E (M.1 k) (M.2 k) (sd.2.2.1 k))) := by rw [zw_at hk, zce_o hs]
  exact va_get (D := E.1) (ci := ci) (C := Cn) (T := T) (N := Nf) hx hb hts hlay hown hK hP k he hci slot hsl (hts _ hlink) (fun _ h => h) (fsO_at hd) d (kk H locs ls hP hD hS ‹_›)
/-- a field is written: an int, or a boolean -/
theorem z_putI {G : zG} {cc : ByteArray} {own : String} {ret : Option FieldType} {nL fr lc : Nat} (C : zC G cc own ret nL fr lc) {M : zM} {lo : List (Option Value)} {st : List Value} {pc : Nat} {k ci slot idx Nf : Nat} {Cn : String} {T : u_T} {x : Nat} {z : Int} {ty0 : Nat → FieldType} {ty : FieldType} (hk : k < G.1.1) (hs : G.1.2.1 k = (5 + ci, 0)) (hd : (G.1.2.2.1 k)[slot]? = some (0, x)) (hci : zcl[ci]? = some (Cn, T, Nf)) (hlay : ∀ w ∈ u_ws Cn T Nf, w ∈ tb) (hty : ∀ k, k < Nf → parseFieldDescriptor (T k).2.2.1 = some (ty0 k)) (hnm : ∀ a, a < Nf → ∀ b, b < Nf → a ≠ b → (T a).2.1 ≠ (T b).2.1) (hsl : slot < Nf) (hfin : (T slot).2.2.2 = false) (hpd : parseFieldDescriptor (T slot).2.2.1 = some ty) (hn : narrow ty (.int (iI z)) = .int (iI z)) (hfit : fits ty (.int (iI z)) = true) (hlink : Cond.fieldLink own idx (T slot).1 (T slot).2.1 (T slot).2.2.1 ∈ tb) (d : decode cc pc = .ok (.putfield idx, 3)) (kk : VJ G (zI M k slot z) (pc + 3) lo st) : VJ G M pc lo (.int (iI z) :: .ref (zad G k) :: st) := by
  obtain ⟨sd, E, P, l, p, e, R, s, m, args, below, meth, c⟩ := G
  obtain ⟨hx, hb, hr, hml, hown, hts, hK, hN, hlk, hR⟩ := C
  intro H locs ls hP hD hS hl
  have he : (zw sd E M)[k]? = some (E.2.2 k, .inr (ci, fsO E (M.1 k) (M.2 k) (sd.2.2.1 k))) := by rw [zw_at hk, zce_o hs]
  have hll : slot < (fsO E (M.1 k) (M.2 k) (sd.2.2.1 k)).length := by rw [fsO_len]; exact (List.getElem?_eq_some_iff.mp hd).1
  refine va_put (D := E.1) (ci := ci) (C := Cn) (T := T) (N := Nf) (v := .int (iI z)) hx hb hts hlay ty0 hty hnm hown hK hP hD hS k he hci slot hsl (hts _ hlink) (fun _ h => h) hfin hpd hn hfit hll d (fun H1 locs1 hP1 hD1 hS1 => ?_)
  have e : (zw sd E M).set k (E.2.2 k, .inr (ci, (fsO E (M.1 k) (M.2 k) (sd.2.2.1 k)).set slot (.int (iI z)))) = zw sd E (zI M k slot z) := by
    rw [← zw_set (M' := zI M k slot z) hk (fun j hj => zce_I hj), zce_o hs]
    rw [fsO_set (I := M.1 k) (J := M.2 k) hd (fun j hj => zI_row hj) (fun j _ => by rw [zI_2])]
    have e3 : fv E (fun j => (zI M k slot z).1 k j) (fun j => (zI M k slot z).2 k j) (0, x) slot = .int (iI z) := by
      show Value.int (iI ((zI M k slot z).1 k slot)) = _
      rw [zI_same]
    exact congrArg (fun q => (zw sd E M).set k (E.2.2 k, .inr (ci, (fsO E (M.1 k) (M.2 k) (sd.2.2.1 k)).set slot q))) e3.symm
  rw [e] at hP1 hD1
  exact kk H1 locs1 ls hP1 hD1 hS1 ‹_›
/-- a field is written: a long -/
theorem z_putJ {G : zG} {cc : ByteArray} {own : String} {ret : Option FieldType} {nL fr lc : Nat} (C : zC G cc own ret nL fr lc) {M : zM} {lo : List (Option Value)} {st : List Value} {pc : Nat} {k ci slot idx Nf : Nat} {Cn : String} {T : u_T} {x : Nat} {z : Int64} {ty0 : Nat → FieldType} (hk : k < G.1.1) (hs : G.1.2.1 k = (5 + ci, 0)) (hd : (G.1.2.2.1 k)[slot]? = some (2, x)) (hci : zcl[ci]? = some (Cn, T, Nf)) (hlay : ∀ w ∈ u_ws Cn T Nf, w ∈ tb) (hty : ∀ k, k < Nf → parseFieldDescriptor (T k).2.2.1 = some (ty0 k)) (hnm : ∀ a, a < Nf → ∀ b, b < Nf → a ≠ b → (T a).2.1 ≠ (T b).2.1) (hsl : slot < Nf) (hfin : (T slot).2.2.2 = false) (hpd : parseFieldDescriptor (T slot).2.2.1 = some .long) (hlink : Cond.fieldLink own idx (T slot).1 (T slot).2.1 (T slot).2.2.1 ∈ tb) (d : decode cc pc = .ok (.putfield idx, 3)) (kk : VJ G (zJ M k slot z) (pc + 3) lo st) : VJ G M pc lo (.long z :: .ref (zad G k) :: st) := by
  obtain ⟨sd, E, P, l, p, e, R, s, m, args, below, meth, c⟩ := G
  obtain ⟨hx, hb, hr, hml, hown, hts, hK, hN, hlk, hR⟩ := C
  intro H locs ls hP hD hS hl
  have he : (zw sd E M)[k]? = some (E.2.2 k, .inr (ci, fsO E (M.1 k) (M.2 k) (sd.2.2.1 k))) := by rw [zw_at hk, zce_o hs]
  have hll : slot < (fsO E (M.1 k) (M.2 k) (sd.2.2.1 k)).length := by rw [fsO_len]; exact (List.getElem?_eq_some_iff.mp hd).1
  refine va_put (D := E.1) (ci := ci) (C := Cn) (T := T) (N := Nf) (v := .long z) hx hb hts hlay ty0 hty hnm hown hK hP hD hS k he hci slot hsl (hts _ hlink) (fun _ h => h) hfin hpd rfl rfl hll d (fun H1 locs1 hP1 hD1 hS1 => ?_)
  have e : (zw sd E M).set k (E.2.2 k, .inr (ci, (fsO E (M.1 k) (M.2 k) (sd.2.2.1 k)).set slot (.long z))) = zw sd E (zJ M k slot z) := by
    rw [← zw_set (M' := zJ M k slot z) hk (fun j hj => zce_J hj), zce_o hs]
    rw [fsO_set (I := M.1 k) (J := M.2 k) hd (fun j _ => by rw [zJ_1]) (fun j hj => zJ_row hj)]
    have e3 : fv E (fun j => (zJ M k slot z).1 k j) (fun j => (zJ M k slot z).2 k j) (2, x) slot = .long z := by
      show Value.long ((zJ M k slot z).2 k slot) = _
      rw [zJ_same]
    exact congrArg (fun q => (zw sd E M).set k (E.2.2 k, .inr (ci, (fsO E (M.1 k) (M.2 k) (sd.2.2.1 k)).set slot q))) e3.symm
  rw [e] at hP1 hD1
  exact kk H1 locs1 ls hP1 hD1 hS1 ‹_›
theorem r_iald {G : zG} {cc : ByteArray} {own : String} {ret : Option FieldType} {nL fr lc : Nat} (C : zC G cc own ret nL fr lc) {M : zM} {lo : List (Option Value)} {st : List Value} {pc : Nat} {k n : Nat} {a : Int} (hs : G.1.2.1 k = (0, n)) (hk : k < G.1.1) (h0 : 0 ≤ a) (h1 : a < n) (hn : n < 2147483648) (d : decode cc pc = .ok (.iaload, 1)) (kk : VJ G M (pc + 1) lo (.int (iI (M.1 k a.toNat)) :: st)) : VJ G M pc lo (.int (iI a) :: .ref (zad G k) :: st) := by
  obtain ⟨sd, E, P, l, p, e, R, s, m, args, below, meth, c⟩ := G
  obtain ⟨hx, hb, hr, hml, hown, hts, hK, hN, hlk, hR⟩ := C
  intro H locs ls hP hD hS hl
  have he := (zw_at (sd := sd) (E := E) (M := M) hk).trans (congrArg (fun q => some (E.2.2 k, q)) (zce_i hs))
  obtain ⟨i1, i2⟩ := iI_in h0 h1 hn
  refine va_iald hx hb hK hP k 0 he rfl i1 d ?_
  rw [i2]
  exact kk H locs ls hP hD hS hl
theorem r_bald {G : zG} {cc : ByteArray} {own : String} {ret : Option FieldType} {nL fr lc : Nat} (C : zC G cc own ret nL fr lc) {M : zM} {lo : List (Option Value)} {st : List Value} {pc : Nat} {k n : Nat} {a : Int} (hs : G.1.2.1 k = (1, n)) (hk : k < G.1.1) (h0 : 0 ≤ a) (h1 : a < n) (hn : n < 2147483648) (d : decode cc pc = .ok (.baload, 1)) (kk : VJ G M (pc + 1) lo (.int (iI (M.1 k a.toNat)) :: st)) : VJ G M pc lo (.int (iI a) :: .ref (zad G k) :: st) := by
  obtain ⟨sd, E, P, l, p, e, R, s, m, args, below, meth, c⟩ := G
  obtain ⟨hx, hb, hr, hml, hown, hts, hK, hN, hlk, hR⟩ := C
  intro H locs ls hP hD hS hl
  have he := (zw_at (sd := sd) (E := E) (M := M) hk).trans (congrArg (fun q => some (E.2.2 k, q)) (zce_z hs))
  obtain ⟨i1, i2⟩ := iI_in h0 h1 hn
  refine va_zald hx hb hK hP k 1 he rfl i1 d ?_
  rw [i2]
  exact kk H locs ls hP hD hS hl
theorem r_lald {G : zG} {cc : ByteArray} {own : String} {ret : Option FieldType} {nL fr lc : Nat} (C : zC G cc own ret nL fr lc) {M : zM} {lo : List (Option Value)} {st : List Value} {pc : Nat} {k n : Nat} {a : Int} (hs : G.1.2.1 k = (2, n)) (hk : k < G.1.1) (h0 : 0 ≤ a) (h1 : a < n) (hn : n < 2147483648) (d : decode cc pc = .ok (.laload, 1)) (kk : VJ G M (pc + 1) lo (.long (M.2 k a.toNat) :: st)) : VJ G M pc lo (.int (iI a) :: .ref (zad G k) :: st) := by
  obtain ⟨sd, E, P, l, p, e, R, s, m, args, below, meth, c⟩ := G
  obtain ⟨hx, hb, hr, hml, hown, hts, hK, hN, hlk, hR⟩ := C
  intro H locs ls hP hD hS hl
  have he := (zw_at (sd := sd) (E := E) (M := M) hk).trans (congrArg (fun q => some (E.2.2 k, q)) (zce_l hs))
  obtain ⟨i1, i2⟩ := iI_in h0 h1 hn
  refine va_lald hx hb hK hP k 2 he rfl i1 d ?_
  rw [i2]
  exact kk H locs ls hP hD hS hl
theorem r_bmld {G : zG} {cc : ByteArray} {own : String} {ret : Option FieldType} {nL fr lc : Nat} (C : zC G cc own ret nL fr lc) {M : zM} {lo : List (Option Value)} {st : List Value} {pc : Nat} {k n : Nat} {a : Int} (hs : G.1.2.1 k = (3, n)) (hk : k < G.1.1) (h0 : 0 ≤ a) (h1 : a < n) (hn : n < 2147483648) (d : decode cc pc = .ok (.aaload, 1)) (kk : VJ G M (pc + 1) lo (.ref (zad G (G.1.2.2.2 k a.toNat)) :: st)) : VJ G M pc lo (.int (iI a) :: .ref (zad G k) :: st) := by
  obtain ⟨sd, E, P, l, p, e, R, s, m, args, below, meth, c⟩ := G
  obtain ⟨hx, hb, hr, hml, hown, hts, hK, hN, hlk, hR⟩ := C
  intro H locs ls hP hD hS hl
  have he := (zw_at (sd := sd) (E := E) (M := M) hk).trans (congrArg (fun q => some (E.2.2 k, q)) (zce_b hs))
  obtain ⟨i1, i2⟩ := iI_in h0 h1 hn
  refine va_aldq hx hb hK hP k 3 he rfl i1 d ?_
  rw [i2]
  exact kk H locs ls hP hD hS hl
theorem r_rwld {G : zG} {cc : ByteArray} {own : String} {ret : Option FieldType} {nL fr lc : Nat} (C : zC G cc own ret nL fr lc) {M : zM} {lo : List (Option Value)} {st : List Value} {pc : Nat} {k n : Nat} {a : Int} (hs : G.1.2.1 k = (4, n)) (hk : k < G.1.1) (h0 : 0 ≤ a) (h1 : a < n) (hn : n < 2147483648) (d : decode cc pc = .ok (.aaload, 1)) (kk : VJ G M (pc + 1) lo (.ref (zad G (G.1.2.2.2 k a.toNat)) :: st)) : VJ G M pc lo (.int (iI a) :: .ref (zad G k) :: st) := by
  obtain ⟨sd, E, P, l, p, e, R, s, m, args, below, meth, c⟩ := G
  obtain ⟨hx, hb, hr, hml, hown, hts, hK, hN, hlk, hR⟩ := C
  intro H locs ls hP hD hS hl
  have he := (zw_at (sd := sd) (E := E) (M := M) hk).trans (congrArg (fun q => some (E.2.2 k, q)) (zce_r hs))
  obtain ⟨i1, i2⟩ := iI_in h0 h1 hn
  have hlt : (iI a).toNatClampNeg < n := Nat.not_le.mp fun q => i1 (Or.inr q)
  refine W.aald (v := .ref (E.2.2 (sd.2.2.2 k (iI a).toNatClampNeg))) (ty := .array .int) hx hb (hP k _ he) ((hK.2 4 _ rfl).1 n (fun j => va_rf (some (E.2.2 (sd.2.2.2 k j))))) rfl (fun q => by cases q) (by show ¬ (iI a < 0 ∨ (arrV _ _ _).slots.size ≤ _); rw [arrV_size]; exact i1) (by show (arrV _ _ _).slots[_]? = _; rw [arrV_read _ _ hlt]; rfl) rfl rfl d ?_
  rw [i2]
  exact kk H locs ls hP hD hS hl
theorem r_iast {G : zG} {cc : ByteArray} {own : String} {ret : Option FieldType} {nL fr lc : Nat} (C : zC G cc own ret nL fr lc) {M : zM} {lo : List (Option Value)} {st : List Value} {pc : Nat} {k n : Nat} {a z : Int} (hs : G.1.2.1 k = (0, n)) (hk : k < G.1.1) (h0 : 0 ≤ a) (h1 : a < n) (hn : n < 2147483648) (d : decode cc pc = .ok (.iastore, 1)) (kk : VJ G (zI M k a.toNat z) (pc + 1) lo st) : VJ G M pc lo (.int (iI z) :: .int (iI a) :: .ref (zad G k) :: st) := by
  obtain ⟨sd, E, P, l, p, e, R, s, m, args, below, meth, c⟩ := G
  obtain ⟨hx, hb, hr, hml, hown, hts, hK, hN, hlk, hR⟩ := C
  intro H locs ls hP hD hS hl
  have he := (zw_at (sd := sd) (E := E) (M := M) hk).trans (congrArg (fun q => some (E.2.2 k, q)) (zce_i hs))
  obtain ⟨i1, i2⟩ := iI_in h0 h1 hn
  refine va_iast hx hb hK hP hD hS k 0 he rfl i1 d (fun H1 locs1 hP1 hD1 hS1 => ?_)
  rw [i2, iI_upd] at hP1 hD1
  have e : (zw sd E M).set k (E.2.2 k, .inl (E.2.1 0, n, .inl (fun i => iI (if i = a.toNat then z else M.1 k i)))) = zw sd E (zI M k a.toNat z) := by
    rw [← zw_set (M' := zI M k a.toNat z) hk (fun j hj => zce_I hj), zce_i hs]
    congr 6
    funext j
    rw [zI_at]
    by_cases q : j = a.toNat <;> simp [q]
  rw [e] at hP1 hD1
  exact kk H1 locs1 ls hP1 hD1 hS1 hl
theorem r_bast {G : zG} {cc : ByteArray} {own : String} {ret : Option FieldType} {nL fr lc : Nat} (C : zC G cc own ret nL fr lc) {M : zM} {lo : List (Option Value)} {st : List Value} {pc : Nat} {k n : Nat} {a z : Int} (hs : G.1.2.1 k = (1, n)) (hk : k < G.1.1) (h0 : 0 ≤ a) (h1 : a < n) (hn : n < 2147483648) (h01 : z = 0 ∨ z = 1) (d : decode cc pc = .ok (.bastore, 1)) (kk : VJ G (zI M k a.toNat z) (pc + 1) lo st) : VJ G M pc lo (.int (iI z) :: .int (iI a) :: .ref (zad G k) :: st) := by
  obtain ⟨sd, E, P, l, p, e, R, s, m, args, below, meth, c⟩ := G
  obtain ⟨hx, hb, hr, hml, hown, hts, hK, hN, hlk, hR⟩ := C
  intro H locs ls hP hD hS hl
  have he := (zw_at (sd := sd) (E := E) (M := M) hk).trans (congrArg (fun q => some (E.2.2 k, q)) (zce_z hs))
  obtain ⟨i1, i2⟩ := iI_in h0 h1 hn
  refine va_zast hx hb hK hP hD hS k 1 he rfl i1 d (fun H1 locs1 hP1 hD1 hS1 => ?_)
  have hz : vp_nar .boolean (iI z) = iI z := by rcases h01 with rfl | rfl <;> rfl
  rw [hz] at hP1 hD1
  rw [i2, iI_upd] at hP1 hD1
  have e : (zw sd E M).set k (E.2.2 k, .inl (E.2.1 1, n, .inl (fun i => iI (if i = a.toNat then z else M.1 k i)))) = zw sd E (zI M k a.toNat z) := by
    rw [← zw_set (M' := zI M k a.toNat z) hk (fun j hj => zce_I hj), zce_z hs]
    congr 6
    funext j
    rw [zI_at]
    by_cases q : j = a.toNat <;> simp [q]
  rw [e] at hP1 hD1
  exact kk H1 locs1 ls hP1 hD1 hS1 hl
theorem r_last {G : zG} {cc : ByteArray} {own : String} {ret : Option FieldType} {nL fr lc : Nat} (C : zC G cc own ret nL fr lc) {M : zM} {lo : List (Option Value)} {st : List Value} {pc : Nat} {k n : Nat} {a : Int} {z : Int64} (hs : G.1.2.1 k = (2, n)) (hk : k < G.1.1) (h0 : 0 ≤ a) (h1 : a < n) (hn : n < 2147483648) (d : decode cc pc = .ok (.lastore, 1)) (kk : VJ G (zJ M k a.toNat z) (pc + 1) lo st) : VJ G M pc lo (.long z :: .int (iI a) :: .ref (zad G k) :: st) := by
  obtain ⟨sd, E, P, l, p, e, R, s, m, args, below, meth, c⟩ := G
  obtain ⟨hx, hb, hr, hml, hown, hts, hK, hN, hlk, hR⟩ := C
  intro H locs ls hP hD hS hl
  have he := (zw_at (sd := sd) (E := E) (M := M) hk).trans (congrArg (fun q => some (E.2.2 k, q)) (zce_l hs))
  obtain ⟨i1, i2⟩ := iI_in h0 h1 hn
  refine va_last hx hb hK hP hD hS k 2 he rfl i1 d (fun H1 locs1 hP1 hD1 hS1 => ?_)
  rw [i2] at hP1 hD1
  have e : (zw sd E M).set k (E.2.2 k, .inl (E.2.1 2, n, .inr (.inl (vp_updL (fun i => M.2 k i) a.toNat z)))) = zw sd E (zJ M k a.toNat z) := by
    rw [← zw_set (M' := zJ M k a.toNat z) hk (fun j hj => zce_J hj), zce_l hs]
    congr 7
    funext j
    rw [zJ_at]
    by_cases q : j = a.toNat <;> simp [q, vp_updL]
  rw [e] at hP1 hD1
  exact kk H1 locs1 ls hP1 hD1 hS1 hl
theorem zK.blind {sd : zSd} {E : zE} {As : List Value} {M : zM} : FrameBlind (va_Pc As (fun U => zU sd E M U)) := by
  intro a U g mk q
  obtain ⟨q0, qP, qD, qK, qN⟩ := q
  exact ⟨q0, qP, qD, va_K.moved (u := U) (U := U.calling g mk a) (Vm.Alike.refl U.vm) qK, qN.same rfl⟩
theorem z_back {G : zG} {cc : ByteArray} {own : String} {ret : Option FieldType} {nL fr lc : Nat} (C : zC G cc own ret nL fr lc) {M : zM} {lo : List (Option Value)} {st : List Value} {pc : Nat} {st0 : List Value} {A0 : List Value} {P0 : Option Value → zM → Prop} (kk : ∀ (v : Option Value) (M' : zM), P0 v M' → VJ G M' (pc + 3) lo (v.toList ++ st)) :
    ∀ (H : Heap) (locs : List Loc) (ls : Array Slot), va_S (zA G.1 G.2.1) G.2.2.2.2.2.2.2.1.heap H locs → lh ls lo → va_Run G.2.2.2.2.1 G.2.2.2.1 G.2.2.2.2.2.1 G.2.2.2.2.2.2.1 G.2.2.2.2.2.2.2.1 G.2.2.2.2.2.2.2.2.1 G.2.2.2.2.2.2.2.2.2.1 G.2.2.2.2.2.2.2.2.2.2.1 G.2.2.2.2.2.2.2.2.2.2.2.1 G.2.2.2.2.2.2.2.2.2.2.2.2 H locs 0 0 0 0 (F0 G.2.2.2.2.2.2.2.2.1 pc ls st0) st (zQ G.1 G.2.1 P0 A0.toArray) (zA G.1 G.2.1) → W G.2.2.2.2.1 G.2.2.2.1 G.2.2.2.2.2.1 G.2.2.2.2.2.2.1 G.2.2.2.2.2.2.2.1 G.2.2.2.2.2.2.2.2.1 G.2.2.2.2.2.2.2.2.2.1 G.2.2.2.2.2.2.2.2.2.2.1 G.2.2.2.2.2.2.2.2.2.2.2.1 G.2.2.2.2.2.2.2.2.2.2.2.2 H locs 0 0 (MQ G.2.2.2.2.2.2.2.2.2.2.1 (zQ G.1 G.2.1 G.2.2.1) G.2.2.2.2.2.2.2.2.2.1 G.2.2.2.2.2.2.2.1 0 0 (zA G.1 G.2.1)) (F0 G.2.2.2.2.2.2.2.2.1 pc ls st0) := by
  obtain ⟨sd, E, P, l, p, e, R, s, m, args, below, meth, c⟩ := G
  intro H locs ls hS hl hr
  dsimp only at hS hr ⊢
  intro T hT X
  obtain ⟨v, st₀, t, T', L, h0, X', hL, e1, e2, ⟨⟨v2, M', hv, hp, hP1, hD1, hK1, hN1⟩, hz, hk⟩, stp⟩ := hr T hT X
  cases hv
  rw [h0] at hz hk
  have hS1 : va_S (zA sd E) s.heap T'.heap (locs ++ L) := ⟨Nat.le_trans hS.1 (by rw [e1]; exact hz), fun q h1 h2 => by rw [e1, hk q (Nat.lt_of_lt_of_le h1 hS.1) h2]; exact hS.2.1 q h1 h2, fun q hq => by
      rcases List.mem_append.mp hq with h | h
      · exact hS.2.2 q h
      · exact hL q h⟩
  obtain ⟨t2, a1, b1⟩ := kk v M' hp T'.heap (locs ++ L) ls (by rw [e1]; exact hP1) hD1 hS1 hl T' rfl X'
  exact ⟨t2, stp t2 a1, b1⟩
/-- invokevirtual -/
theorem z_callV {G : zG} {cc : ByteArray} {own : String} {ret : Option FieldType} {nL fr lc : Nat} (C : zC G cc own ret nL fr lc) {M : zM} {lo : List (Option Value)} {st : List Value} {pc : Nat} {idx : Nat} {y : MethodName} {bytes : ByteArray} {maxL fr2 lc2 n : Nat} {ret2 : Option FieldType} {P0 : Option Value → zM → Prop} {As : List Value} {k ci Nf : Nat} {Cn : String} {T : u_T} (hc : zK G.2.2.2.1 G.1 G.2.1 y bytes maxL ret2 fr2 lc2 (.ref (zad G k) :: As) M P0) (hk : k < G.1.1) (hs : G.1.2.1 k = (5 + ci, 0)) (hci : zcl[ci]? = some (Cn, T, Nf)) (hn : As.length = n)
    (hcode : Cond.code y bytes maxL ret2 ∈ tb) (hlink : Cond.methodLink own idx y ∈ tb) (hinst : Cond.instanceMethod y ∈ tb) (hsel : Cond.selects Cn y y ∈ tb) (hini : Cond.initialized Cn ∈ tb) (hd : y.cls = Cn ∧ y.cls ≠ "java/lang/invoke/MethodHandle" ∧ y.cls ≠ "java/lang/invoke/VarHandle" ∧ (parseMethodDescriptor y.desc).map (fun d => d.parameters.length) = some n) (hroom : fr2 + 1 ≤ fr ∧ 8 + (maxL + 11) + lc2 ≤ lc) (hcat : (st.map fun v => v.category).sum ≤ 8) (hlo : lo.length = nL)
    (d : decode cc pc = .ok (.invokevirtual idx, 3)) (kk : ∀ (v : Option Value) (M' : zM), P0 v M' → VJ G M' (pc + 3) lo (v.toList ++ st)) : VJ G M pc lo (As.reverse ++ .ref (zad G k) :: st) := by
  have hback := z_back (M := M) C (st0 := As.reverse ++ .ref (zad G k) :: st) (A0 := .ref (zad G k) :: As) kk
  obtain ⟨sd, E, P, l, p, e, R, s, m, args, below, meth, c⟩ := G
  obtain ⟨hx, hb, hr, hml, hown, hts, hK, hN, hlk, hR⟩ := C
  intro H locs ls hP hD hS hl
  dsimp only at hback hc hk hs
  have he : (zw sd E M)[k]? = some (E.2.2 k, .inr (ci, fsO E (M.1 k) (M.2 k) (sd.2.2.1 k))) := by rw [zw_at hk, zce_o hs]
  have hG : GoodIn tb (Cond.code y bytes maxL ret2 :: tb) := fun w hw => by
    rcases List.mem_cons.mp hw with rfl | hw
    · exact ⟨hcode, (tb_good _ hcode).2⟩
    · exact tb_good w hw
  have hG2 : GoodIn tb (wsV own idx Cn y (Cond.code y bytes maxL ret2 :: tb)) := fun w hw => by
    unfold wsV at hw
    rcases List.mem_append.mp hw with hw | hw
    · simp only [List.mem_cons, List.not_mem_nil, or_false] at hw
      rcases hw with rfl | rfl | rfl | rfl
      · exact tb_good _ hlink
      · exact tb_good _ hinst
      · exact tb_good _ hsel
      · exact tb_good _ hini
    · exact hG w hw
  subst hR
  exact hback H locs ls hS hl (va_runV (cc := cc) (nL := nL) (As := As) (rest := st) ⟨hx, hb, hml, hown, hts⟩ hc (cwV n hts hG2 rfl rfl rfl hd hroom) ⟨zK.blind, va_recv hK hP hci he, fun U hU hW => ⟨rfl, by rw [hU]; exact hP, hD, va_K.moved hW.alike hK, hN.warm hW⟩⟩ rfl hn (hl.1.trans hlo) rfl (lv_room hcat) d ⟨Nat.le_refl _, Nat.le_refl _⟩)
/-- invokestatic -/
theorem z_callS {G : zG} {cc : ByteArray} {own : String} {ret : Option FieldType} {nL fr lc : Nat} (C : zC G cc own ret nL fr lc) {M : zM} {lo : List (Option Value)} {st : List Value} {pc : Nat} {idx : Nat} {y : MethodName} {bytes : ByteArray} {maxL fr2 lc2 n : Nat} {ret2 : Option FieldType} {P0 : Option Value → zM → Prop} {As : List Value} (hc : zK G.2.2.2.1 G.1 G.2.1 y bytes maxL ret2 fr2 lc2 As M P0) (hn : As.length = n)
    (hcode : Cond.code y bytes maxL ret2 ∈ tb) (hlink : Cond.methodLink own idx y ∈ tb) (hstat : Cond.static y ∈ tb) (hini : Cond.initialized y.cls ∈ tb) (hd : y.cls ≠ "java/lang/invoke/MethodHandle" ∧ y.cls ≠ "java/lang/invoke/VarHandle" ∧ (parseMethodDescriptor y.desc).map (fun d => d.parameters.length) = some n) (hroom : fr2 + 1 ≤ fr ∧ 8 + (maxL + 11) + lc2 ≤ lc) (hcat : (st.map fun v => v.category).sum ≤ 8) (hlo : lo.length = nL)
    (d : decode cc pc = .ok (.invokestatic idx, 3)) (kk : ∀ (v : Option Value) (M' : zM), P0 v M' → VJ G M' (pc + 3) lo (v.toList ++ st)) : VJ G M pc lo (As.reverse ++ st) := by
  have hback := z_back (M := M) C (st0 := As.reverse ++ st) (A0 := As) kk
  obtain ⟨sd, E, P, l, p, e, R, s, m, args, below, meth, c⟩ := G
  obtain ⟨hx, hb, hr, hml, hown, hts, hK, hN, hlk, hR⟩ := C
  intro H locs ls hP hD hS hl
  dsimp only at hback hc
  have hG : GoodIn tb (Cond.code y bytes maxL ret2 :: tb) := fun w hw => by
    rcases List.mem_cons.mp hw with rfl | hw
    · exact ⟨hcode, (tb_good _ hcode).2⟩
    · exact tb_good w hw
  have hG2 : GoodIn tb (va_wsS own idx y (Cond.code y bytes maxL ret2 :: tb)) := fun w hw => by
    unfold va_wsS at hw
    rcases List.mem_append.mp hw with hw | hw
    · simp only [List.mem_cons, List.not_mem_nil, or_false] at hw
      rcases hw with rfl | rfl | rfl
      · exact tb_good _ hlink
      · exact tb_good _ hstat
      · exact tb_good _ hini
    · exact hG w hw
  subst hR
  exact hback H locs ls hS hl (va_runS (cc := cc) (nL := nL) (As := As) (rest := st) ⟨hx, hb, hml, hown, hts⟩ hc (va_cwS n hts hG2 rfl rfl rfl hd hroom) ⟨zK.blind, fun U hU hW => ⟨rfl, by rw [hU]; exact hP, hD, va_K.moved hW.alike hK, hN.warm hW⟩⟩ rfl hn (hl.1.trans hlo) rfl (lv_room hcat) d ⟨Nat.le_refl _, Nat.le_refl _⟩)
/-- invokestatic of a nest mate's private method -/
theorem z_callN {G : zG} {cc : ByteArray} {own : String} {ret : Option FieldType} {nL fr lc : Nat} (C : zC G cc own ret nL fr lc) {M : zM} {lo : List (Option Value)} {st : List Value} {pc : Nat} {idx : Nat} {y : MethodName} {bytes : ByteArray} {maxL fr2 lc2 n : Nat} {ret2 : Option FieldType} {P0 : Option Value → zM → Prop} {As : List Value} {host : String} (hc : zK G.2.2.2.1 G.1 G.2.1 y bytes maxL ret2 fr2 lc2 As M P0) (hn : As.length = n)
    (hcode : Cond.code y bytes maxL ret2 ∈ tb) (hlink : ∀ U, zN U → va_Nw (.methodLinkNest own idx y host) U) (hstat : Cond.static y ∈ tb) (hini : Cond.initialized y.cls ∈ tb) (hd : y.cls ≠ "java/lang/invoke/MethodHandle" ∧ y.cls ≠ "java/lang/invoke/VarHandle" ∧ (parseMethodDescriptor y.desc).map (fun d => d.parameters.length) = some n) (hroom : fr2 + 1 ≤ fr ∧ 8 + (maxL + 11) + lc2 ≤ lc) (hcat : (st.map fun v => v.category).sum ≤ 8) (hlo : lo.length = nL)
    (d : decode cc pc = .ok (.invokestatic idx, 3)) (kk : ∀ (v : Option Value) (M' : zM), P0 v M' → VJ G M' (pc + 3) lo (v.toList ++ st)) : VJ G M pc lo (As.reverse ++ st) := by
  have hback := z_back (M := M) C (st0 := As.reverse ++ st) (A0 := As) kk
  obtain ⟨sd, E, P, l, p, e, R, s, m, args, below, meth, c⟩ := G
  obtain ⟨hx, hb, hr, hml, hown, hts, hK, hN, hlk, hR⟩ := C
  intro H locs ls hP hD hS hl
  dsimp only at hback hc
  have hG : GoodIn tb (Cond.code y bytes maxL ret2 :: tb) := fun w hw => by
    rcases List.mem_cons.mp hw with rfl | hw
    · exact ⟨hcode, (tb_good _ hcode).2⟩
    · exact tb_good w hw
  subst hR
  exact hback H locs ls hS hl (va_runSN (cc := cc) (nL := nL) (As := As) (rest := st) ⟨hx, hb, hml, hown, hts⟩ hc ⟨va_cnB n hts hG rfl rfl rfl (hlink s hN) (hts _ hini) hd hroom, hts _ hstat, trivial⟩ ⟨zK.blind, fun U hU hW => ⟨rfl, by rw [hU]; exact hP, hD, va_K.moved hW.alike hK, hN.warm hW⟩⟩ rfl hn (hl.1.trans hlo) rfl (lv_room hcat) d ⟨Nat.le_refl _, Nat.le_refl _⟩)
theorem kkI {G : zG} {pc : Nat} {lo : List (Option Value)} {st : List Value} {p0 : Int → zM → Prop} (k : ∀ (z : Int) (M' : zM), p0 z M' → VJ G M' (pc + 3) lo (.int (iI z) :: st)) : ∀ (v : Option Value) (M' : zM), zPi p0 v M' → VJ G M' (pc + 3) lo (v.toList ++ st) := by
  rintro v M' ⟨z, rfl, h⟩
  exact k z M' h
theorem kkL {G : zG} {pc : Nat} {lo : List (Option Value)} {st : List Value} {p0 : Int64 → zM → Prop} (k : ∀ (x : Int64) (M' : zM), p0 x M' → VJ G M' (pc + 3) lo (.long x :: st)) : ∀ (v : Option Value) (M' : zM), zPl p0 v M' → VJ G M' (pc + 3) lo (v.toList ++ st) := by
  rintro v M' ⟨x, rfl, h⟩
  exact k x M' h
theorem kkV {G : zG} {pc : Nat} {lo : List (Option Value)} {st : List Value} {p0 : zM → Prop} (k : ∀ (M' : zM), p0 M' → VJ G M' (pc + 3) lo st) : ∀ (v : Option Value) (M' : zM), zPv p0 v M' → VJ G M' (pc + 3) lo (v.toList ++ st) := by
  rintro v M' ⟨rfl, h⟩
  exact k M' h
end
section
def shX (k : Nat) : Nat × Nat := if k < 45 then ([(5, 0), (6, 0), (7, 0), (8, 0), (8, 0), (0, 2), (0, 12), (0, 12), (4, 4), (0, 3), (0, 3), (0, 3), (0, 3), (3, 12), (0, 40), (0, 40), (0, 40), (1, 40), (0, 8), (0, 8), (0, 8), (4, 12), (0, 11), (0, 11), (0, 11), (0, 11), (0, 11), (0, 11), (0, 11), (0, 11), (0, 11), (0, 11), (0, 11), (0, 11), (4, 4), (0, 11), (0, 11), (0, 11), (0, 11), (0, 60), (0, 60), (0, 60), (0, 60), (2, 11), (2, 11)] : List (Nat × Nat)).getD k (0, 0) else ([(9, 0), (0, 2), (0, 2), (0, 2), (2, 61), (2, 61), (2, 2)] : List (Nat × Nat)).getD ((k - 45) % 7) (0, 0)
def dsX (k : Nat) : List (Nat × Nat) := if k < 45 then ([[(6, 1), (6, 2), (6, 3), (6, 4), (6, 5), (6, 6), (6, 7)], [(6, 8), (6, 13), (0, 0), (0, 0), (6, 14), (6, 15), (6, 16), (6, 17), (0, 0), (6, 18), (6, 19), (6, 20), (0, 0), (0, 0), (0, 0)], [(6, 21), (6, 34), (6, 39), (6, 40), (6, 41), (6, 42), (0, 0), (6, 43), (6, 44)], [(2, 0), (2, 0)], [(2, 0), (2, 0)]] : List (List (Nat × Nat))).getD k [] else [(0, 0), (0, 0), (0, 0), (0, 0), (0, 0), (6, k + 1), (6, k + 2), (6, k + 3), (6, k + 4), (6, k + 5), (6, k + 6), (2, 0), (0, 0)]
def rfX (k i : Nat) : Nat := if k = 8 then 9 + i else if k = 13 then 45 + 7 * i else if k = 21 then 22 + i else 35 + i
def sX : zSd := (129, shX, dsX, rfX)
def shM (k : Nat) : Nat × Nat := ([(10, 0), (0, 4), (0, 8), (0, 12), (0, 12), (0, 12), (0, 12), (1, 12), (1, 12), (0, 24), (0, 24), (0, 24), (0, 40), (0, 40), (0, 40), (1, 40), (0, 8), (0, 8), (0, 8), (1, 8), (1, 12), (1, 8), (1, 12), (2, 732), (2, 24), (2, 12), (0, 12), (0, 132), (0, 44), (0, 60), (0, 60), (0, 60), (0, 60), (2, 11), (2, 11), (0, 12)] : List (Nat × Nat)).getD k (0, 0)
def dsM (k : Nat) : List (Nat × Nat) := [(6, 1), (6, 2), (0, 0), (6, 3), (6, 4), (6, 5), (6, 6), (6, 7), (6, 8), (6, 9), (6, 10), (6, 11), (0, 0), (6, 12), (6, 13), (6, 14), (6, 15), (0, 0), (6, 16), (6, 17), (6, 18), (6, 19), (6, 20), (6, 21), (6, 22), (6, 23), (6, 24), (6, 25), (6, 26), (6, 27), (6, 28), (0, 0), (6, 29), (6, 30), (6, 31), (6, 32), (6, 33), (6, 34), (0, 0), (2, 0), (2, 0), (6, 35), (0, 0), (0, 0), (0, 0)]
def sM : zSd := (36, shM, dsM, fun _ i => i)
theorem shB0 (i : Nat) : shX (45 + 7 * i) = (9, 0) := by
  unfold shX
  rw [if_neg (by omega), show (45 + 7 * i - 45) % 7 = 0 by omega]
  rfl
theorem shB1 (i : Nat) : shX (45 + 7 * i + 1) = (0, 2) := by
  unfold shX
  rw [if_neg (by omega), show (45 + 7 * i + 1 - 45) % 7 = 1 by omega]
  rfl
theorem shB2 (i : Nat) : shX (45 + 7 * i + 2) = (0, 2) := by
  unfold shX
  rw [if_neg (by omega), show (45 + 7 * i + 2 - 45) % 7 = 2 by omega]
  rfl
theorem shB3 (i : Nat) : shX (45 + 7 * i + 3) = (0, 2) := by
  unfold shX
  rw [if_neg (by omega), show (45 + 7 * i + 3 - 45) % 7 = 3 by omega]
  rfl
theorem shB4 (i : Nat) : shX (45 + 7 * i + 4) = (2, 61) := by
  unfold shX
  rw [if_neg (by omega), show (45 + 7 * i + 4 - 45) % 7 = 4 by omega]
  rfl
theorem shB5 (i : Nat) : shX (45 + 7 * i + 5) = (2, 61) := by
  unfold shX
  rw [if_neg (by omega), show (45 + 7 * i + 5 - 45) % 7 = 5 by omega]
  rfl
theorem shB6 (i : Nat) : shX (45 + 7 * i + 6) = (2, 2) := by
  unfold shX
  rw [if_neg (by omega), show (45 + 7 * i + 6 - 45) % 7 = 6 by omega]
  rfl
theorem shKr {a : Nat} (h : a < 4) : shX (9 + a) = (0, 3) := by
  rcases (show a = 0 ∨ a = 1 ∨ a = 2 ∨ a = 3 by omega) with rfl | rfl | rfl | rfl <;> rfl
theorem shTr {a : Nat} (h : a < 4) : shX (35 + a) = (0, 11) := by
  rcases (show a = 0 ∨ a = 1 ∨ a = 2 ∨ a = 3 by omega) with rfl | rfl | rfl | rfl <;> rfl
theorem shWr {a : Nat} (h : a < 12) : shX (22 + a) = (0, 11) := by
  rcases (show a = 0 ∨ a = 1 ∨ a = 2 ∨ a = 3 ∨ a = 4 ∨ a = 5 ∨ a = 6 ∨ a = 7 ∨ a = 8 ∨ a = 9 ∨ a = 10 ∨ a = 11 by omega) with rfl | rfl | rfl | rfl | rfl | rfl | rfl | rfl | rfl | rfl | rfl | rfl <;> rfl
theorem dsB (i : Nat) : dsX (45 + 7 * i) = [(0, 0), (0, 0), (0, 0), (0, 0), (0, 0), (6, 45 + 7 * i + 1), (6, 45 + 7 * i + 2), (6, 45 + 7 * i + 3), (6, 45 + 7 * i + 4), (6, 45 + 7 * i + 5), (6, 45 + 7 * i + 6), (2, 0), (0, 0)] := by
  unfold dsX
  rw [if_neg (by omega)]
theorem tb_lay {C : String} {T : u_T} {n : Nat} (h : ∀ w ∈ u_ws C T n, w ∈ lw_tbl.filter goodWord) : ∀ w ∈ u_ws C T n, w ∈ tb := h
theorem X_iald {G : zG} {cc : ByteArray} {own : String} {ret : Option FieldType} {nL fr lc : Nat} (C : zC G cc own ret nL fr lc) {M : zM} {lo : List (Option Value)} {st : List Value} {pc : Nat} (hS : G.1 = sX) {k n : Nat} {a : Int} (hs : shX k = (0, n)) (hk : k < 129) (h0 : 0 ≤ a) (h1 : a < n) (hn : n < 2147483648) (d : decode cc pc = .ok (.iaload, 1)) (kk : VJ G M (pc + 1) lo (.int (iI (M.1 k a.toNat)) :: st)) : VJ G M pc lo (.int (iI a) :: .ref (zad G k) :: st) := r_iald C (by rw [hS]; exact hs) (by rw [hS]; exact hk) h0 h1 hn d kk
theorem X_bald {G : zG} {cc : ByteArray} {own : String} {ret : Option FieldType} {nL fr lc : Nat} (C : zC G cc own ret nL fr lc) {M : zM} {lo : List (Option Value)} {st : List Value} {pc : Nat} (hS : G.1 = sX) {k n : Nat} {a : Int} (hs : shX k = (1, n)) (hk : k < 129) (h0 : 0 ≤ a) (h1 : a < n) (hn : n < 2147483648) (d : decode cc pc = .ok (.baload, 1)) (kk : VJ G M (pc + 1) lo (.int (iI (M.1 k a.toNat)) :: st)) : VJ G M pc lo (.int (iI a) :: .ref (zad G k) :: st) := r_bald C (by rw [hS]; exact hs) (by rw [hS]; exact hk) h0 h1 hn d kk
theorem X_lald {G : zG} {cc : ByteArray} {own : String} {ret : Option FieldType} {nL fr lc : Nat} (C : zC G cc own ret nL fr lc) {M : zM} {lo : List (Option Value)} {st : List Value} {pc : Nat} (hS : G.1 = sX) {k n : Nat} {a : Int} (hs : shX k = (2, n)) (hk : k < 129) (h0 : 0 ≤ a) (h1 : a < n) (hn : n < 2147483648) (d : decode cc pc = .ok (.laload, 1)) (kk : VJ G M (pc + 1) lo (.long (M.2 k a.toNat) :: st)) : VJ G M pc lo (.int (iI a) :: .ref (zad G k) :: st) := r_lald C (by rw [hS]; exact hs) (by rw [hS]; exact hk) h0 h1 hn d kk
theorem X_iast {G : zG} {cc : ByteArray} {own : String} {ret : Option FieldType} {nL fr lc : Nat} (C : zC G cc own ret nL fr lc) {M : zM} {lo : List (Option Value)} {st : List Value} {pc : Nat} (hS : G.1 = sX) {k n : Nat} {a z : Int} (hs : shX k = (0, n)) (hk : k < 129) (h0 : 0 ≤ a) (h1 : a < n) (hn : n < 2147483648) (d : decode cc pc = .ok (.iastore, 1)) (kk : VJ G (zI M k a.toNat z) (pc + 1) lo st) : VJ G M pc lo (.int (iI z) :: .int (iI a) :: .ref (zad G k) :: st) := r_iast C (by rw [hS]; exact hs) (by rw [hS]; exact hk) h0 h1 hn d kk
theorem X_bast {G : zG} {cc : ByteArray} {own : String} {ret : Option FieldType} {nL fr lc : Nat} (C : zC G cc own ret nL fr lc) {M : zM} {lo : List (Option Value)} {st : List Value} {pc : Nat} (hS : G.1 = sX) {k n : Nat} {a z : Int} (hs : shX k = (1, n)) (hk : k < 129) (h0 : 0 ≤ a) (h1 : a < n) (hn : n < 2147483648) (h01 : z = 0 ∨ z = 1) (d : decode cc pc = .ok (.bastore, 1)) (kk : VJ G (zI M k a.toNat z) (pc + 1) lo st) : VJ G M pc lo (.int (iI z) :: .int (iI a) :: .ref (zad G k) :: st) := r_bast C (by rw [hS]; exact hs) (by rw [hS]; exact hk) h0 h1 hn h01 d kk
theorem X_last {G : zG} {cc : ByteArray} {own : String} {ret : Option FieldType} {nL fr lc : Nat} (C : zC G cc own ret nL fr lc) {M : zM} {lo : List (Option Value)} {st : List Value} {pc : Nat} (hS : G.1 = sX) {k n : Nat} {a : Int} {z : Int64} (hs : shX k = (2, n)) (hk : k < 129) (h0 : 0 ≤ a) (h1 : a < n) (hn : n < 2147483648) (d : decode cc pc = .ok (.lastore, 1)) (kk : VJ G (zJ M k a.toNat z) (pc + 1) lo st) : VJ G M pc lo (.long z :: .int (iI a) :: .ref (zad G k) :: st) := r_last C (by rw [hS]; exact hs) (by rw [hS]; exact hk) h0 h1 hn d kk
theorem M_iald {G : zG} {cc : ByteArray} {own : String} {ret : Option FieldType} {nL fr lc : Nat} (C : zC G cc own ret nL fr lc) {M : zM} {lo : List (Option Value)} {st : List Value} {pc : Nat} (hS : G.1 = sM) {k n : Nat} {a : Int} (hs : shM k = (0, n)) (hk : k < 36) (h0 : 0 ≤ a) (h1 : a < n) (hn : n < 2147483648) (d : decode cc pc = .ok (.iaload, 1)) (kk : VJ G M (pc + 1) lo (.int (iI (M.1 k a.toNat)) :: st)) : VJ G M pc lo (.int (iI a) :: .ref (zad G k) :: st) := r_iald C (by rw [hS]; exact hs) (by rw [hS]; exact hk) h0 h1 hn d kk
theorem M_bald {G : zG} {cc : ByteArray} {own : String} {ret : Option FieldType} {nL fr lc : Nat} (C : zC G cc own ret nL fr lc) {M : zM} {lo : List (Option Value)} {st : List Value} {pc : Nat} (hS : G.1 = sM) {k n : Nat} {a : Int} (hs : shM k = (1, n)) (hk : k < 36) (h0 : 0 ≤ a) (h1 : a < n) (hn : n < 2147483648) (d : decode cc pc = .ok (.baload, 1)) (kk : VJ G M (pc + 1) lo (.int (iI (M.1 k a.toNat)) :: st)) : VJ G M pc lo (.int (iI a) :: .ref (zad G k) :: st) := r_bald C (by rw [hS]; exact hs) (by rw [hS]; exact hk) h0 h1 hn d kk
theorem M_lald {G : zG} {cc : ByteArray} {own : String} {ret : Option FieldType} {nL fr lc : Nat} (C : zC G cc own ret nL fr lc) {M : zM} {lo : List (Option Value)} {st : List Value} {pc : Nat} (hS : G.1 = sM) {k n : Nat} {a : Int} (hs : shM k = (2, n)) (hk : k < 36) (h0 : 0 ≤ a) (h1 : a < n) (hn : n < 2147483648) (d : decode cc pc = .ok (.laload, 1)) (kk : VJ G M (pc + 1) lo (.long (M.2 k a.toNat) :: st)) : VJ G M pc lo (.int (iI a) :: .ref (zad G k) :: st) := r_lald C (by rw [hS]; exact hs) (by rw [hS]; exact hk) h0 h1 hn d kk
theorem M_iast {G : zG} {cc : ByteArray} {own : String} {ret : Option FieldType} {nL fr lc : Nat} (C : zC G cc own ret nL fr lc) {M : zM} {lo : List (Option Value)} {st : List Value} {pc : Nat} (hS : G.1 = sM) {k n : Nat} {a z : Int} (hs : shM k = (0, n)) (hk : k < 36) (h0 : 0 ≤ a) (h1 : a < n) (hn : n < 2147483648) (d : decode cc pc = .ok (.iastore, 1)) (kk : VJ G (zI M k a.toNat z) (pc + 1) lo st) : VJ G M pc lo (.int (iI z) :: .int (iI a) :: .ref (zad G k) :: st) := r_iast C (by rw [hS]; exact hs) (by rw [hS]; exact hk) h0 h1 hn d kk
theorem M_bast {G : zG} {cc : ByteArray} {own : String} {ret : Option FieldType} {nL fr lc : Nat} (C : zC G cc own ret nL fr lc) {M : zM} {lo : List (Option Value)} {st : List Value} {pc : Nat} (hS : G.1 = sM) {k n : Nat} {a z : Int} (hs : shM k = (1, n)) (hk : k < 36) (h0 : 0 ≤ a) (h1 : a < n) (hn : n < 2147483648) (h01 : z = 0 ∨ z = 1) (d : decode cc pc = .ok (.bastore, 1)) (kk : VJ G (zI M k a.toNat z) (pc + 1) lo st) : VJ G M pc lo (.int (iI z) :: .int (iI a) :: .ref (zad G k) :: st) := r_bast C (by rw [hS]; exact hs) (by rw [hS]; exact hk) h0 h1 hn h01 d kk
theorem M_last {G : zG} {cc : ByteArray} {own : String} {ret : Option FieldType} {nL fr lc : Nat} (C : zC G cc own ret nL fr lc) {M : zM} {lo : List (Option Value)} {st : List Value} {pc : Nat} (hS : G.1 = sM) {k n : Nat} {a : Int} {z : Int64} (hs : shM k = (2, n)) (hk : k < 36) (h0 : 0 ≤ a) (h1 : a < n) (hn : n < 2147483648) (d : decode cc pc = .ok (.lastore, 1)) (kk : VJ G (zJ M k a.toNat z) (pc + 1) lo st) : VJ G M pc lo (.long z :: .int (iI a) :: .ref (zad G k) :: st) := r_last C (by rw [hS]; exact hs) (by rw [hS]; exact hk) h0 h1 hn d kk
theorem X_kinds {G : zG} {cc : ByteArray} {own : String} {ret : Option FieldType} {nL fr lc : Nat} (C : zC G cc own ret nL fr lc) {M : zM} {lo : List (Option Value)} {st : List Value} {pc : Nat} (hS : G.1 = sX) {a : Int} (h0 : 0 ≤ a) (h1 : a < 4) (d : decode cc pc = .ok (.aaload, 1)) (kk : VJ G M (pc + 1) lo (.ref (zad G (9 + a.toNat)) :: st)) : VJ G M pc lo (.int (iI a) :: .ref (zad G 8) :: st) := r_rwld C (n := 4) (by rw [hS]; rfl) (by rw [hS]; decide) h0 h1 (by decide) d (by rw [hS]; exact kk)
theorem X_weights {G : zG} {cc : ByteArray} {own : String} {ret : Option FieldType} {nL fr lc : Nat} (C : zC G cc own ret nL fr lc) {M : zM} {lo : List (Option Value)} {st : List Value} {pc : Nat} (hS : G.1 = sX) {a : Int} (h0 : 0 ≤ a) (h1 : a < 12) (d : decode cc pc = .ok (.aaload, 1)) (kk : VJ G M (pc + 1) lo (.ref (zad G (22 + a.toNat)) :: st)) : VJ G M pc lo (.int (iI a) :: .ref (zad G 21) :: st) := r_rwld C (n := 12) (by rw [hS]; rfl) (by rw [hS]; decide) h0 h1 (by decide) d (by rw [hS]; exact kk)
theorem X_tools {G : zG} {cc : ByteArray} {own : String} {ret : Option FieldType} {nL fr lc : Nat} (C : zC G cc own ret nL fr lc) {M : zM} {lo : List (Option Value)} {st : List Value} {pc : Nat} (hS : G.1 = sX) {a : Int} (h0 : 0 ≤ a) (h1 : a < 4) (d : decode cc pc = .ok (.aaload, 1)) (kk : VJ G M (pc + 1) lo (.ref (zad G (35 + a.toNat)) :: st)) : VJ G M pc lo (.int (iI a) :: .ref (zad G 34) :: st) := r_rwld C (n := 4) (by rw [hS]; rfl) (by rw [hS]; decide) h0 h1 (by decide) d (by rw [hS]; exact kk)
theorem X_beams {G : zG} {cc : ByteArray} {own : String} {ret : Option FieldType} {nL fr lc : Nat} (C : zC G cc own ret nL fr lc) {M : zM} {lo : List (Option Value)} {st : List Value} {pc : Nat} (hS : G.1 = sX) {a : Int} (h0 : 0 ≤ a) (h1 : a < 12) (d : decode cc pc = .ok (.aaload, 1)) (kk : VJ G M (pc + 1) lo (.ref (zad G (45 + 7 * a.toNat)) :: st)) : VJ G M pc lo (.int (iI a) :: .ref (zad G 13) :: st) := r_bmld C (n := 12) (by rw [hS]; rfl) (by rw [hS]; decide) h0 h1 (by decide) d (by rw [hS]; exact kk)
theorem gX_O_frame {G : zG} {cc : ByteArray} {own : String} {ret : Option FieldType} {nL fr lc : Nat} (C : zC G cc own ret nL fr lc) {M : zM} {lo : List (Option Value)} {st : List Value} {pc : Nat} (hS : G.1 = sX) {idx : Nat} (hl : Cond.fieldLink own idx "OldBeams" "frame" "LOldBeams$Frame;" ∈ tb) (d : decode cc pc = .ok (.getfield idx, 3)) (kk : VJ G M (pc + 3) lo (.ref (zad G (1)) :: st)) : VJ G M pc lo (.ref (zad G 0) :: st) := z_get C (k := 0) (ci := 0) (slot := 0) (fd := (6, 1)) (T := TX_O) (by rw [hS]; decide) (by rw [hS]; exact rfl) (by rw [hS]; exact rfl) rfl lay_O (by decide) hl d kk
theorem gX_O_looks {G : zG} {cc : ByteArray} {own : String} {ret : Option FieldType} {nL fr lc : Nat} (C : zC G cc own ret nL fr lc) {M : zM} {lo : List (Option Value)} {st : List Value} {pc : Nat} (hS : G.1 = sX) {idx : Nat} (hl : Cond.fieldLink own idx "OldBeams" "looks" "LOldBeams$Looks;" ∈ tb) (d : decode cc pc = .ok (.getfield idx, 3)) (kk : VJ G M (pc + 3) lo (.ref (zad G (2)) :: st)) : VJ G M pc lo (.ref (zad G 0) :: st) := z_get C (k := 0) (ci := 0) (slot := 1) (fd := (6, 2)) (T := TX_O) (by rw [hS]; decide) (by rw [hS]; exact rfl) (by rw [hS]; exact rfl) rfl lay_O (by decide) hl d kk
theorem gX_O_fraction {G : zG} {cc : ByteArray} {own : String} {ret : Option FieldType} {nL fr lc : Nat} (C : zC G cc own ret nL fr lc) {M : zM} {lo : List (Option Value)} {st : List Value} {pc : Nat} (hS : G.1 = sX) {idx : Nat} (hl : Cond.fieldLink own idx "OldBeams" "fraction" "LOldBeams$Fraction;" ∈ tb) (d : decode cc pc = .ok (.getfield idx, 3)) (kk : VJ G M (pc + 3) lo (.ref (zad G (3)) :: st)) : VJ G M pc lo (.ref (zad G 0) :: st) := z_get C (k := 0) (ci := 0) (slot := 2) (fd := (6, 3)) (T := TX_O) (by rw [hS]; decide) (by rw [hS]; exact rfl) (by rw [hS]; exact rfl) rfl lay_O (by decide) hl d kk
theorem gX_O_best {G : zG} {cc : ByteArray} {own : String} {ret : Option FieldType} {nL fr lc : Nat} (C : zC G cc own ret nL fr lc) {M : zM} {lo : List (Option Value)} {st : List Value} {pc : Nat} (hS : G.1 = sX) {idx : Nat} (hl : Cond.fieldLink own idx "OldBeams" "best" "LOldBeams$Fraction;" ∈ tb) (d : decode cc pc = .ok (.getfield idx, 3)) (kk : VJ G M (pc + 3) lo (.ref (zad G (4)) :: st)) : VJ G M pc lo (.ref (zad G 0) :: st) := z_get C (k := 0) (ci := 0) (slot := 3) (fd := (6, 4)) (T := TX_O) (by rw [hS]; decide) (by rw [hS]; exact rfl) (by rw [hS]; exact rfl) rfl lay_O (by decide) hl d kk
theorem gX_O_prices {G : zG} {cc : ByteArray} {own : String} {ret : Option FieldType} {nL fr lc : Nat} (C : zC G cc own ret nL fr lc) {M : zM} {lo : List (Option Value)} {st : List Value} {pc : Nat} (hS : G.1 = sX) {idx : Nat} (hl : Cond.fieldLink own idx "OldBeams" "prices" "[I" ∈ tb) (d : decode cc pc = .ok (.getfield idx, 3)) (kk : VJ G M (pc + 3) lo (.ref (zad G (5)) :: st)) : VJ G M pc lo (.ref (zad G 0) :: st) := z_get C (k := 0) (ci := 0) (slot := 4) (fd := (6, 5)) (T := TX_O) (by rw [hS]; decide) (by rw [hS]; exact rfl) (by rw [hS]; exact rfl) rfl lay_O (by decide) hl d kk
theorem gX_O_shares {G : zG} {cc : ByteArray} {own : String} {ret : Option FieldType} {nL fr lc : Nat} (C : zC G cc own ret nL fr lc) {M : zM} {lo : List (Option Value)} {st : List Value} {pc : Nat} (hS : G.1 = sX) {idx : Nat} (hl : Cond.fieldLink own idx "OldBeams" "shares" "[I" ∈ tb) (d : decode cc pc = .ok (.getfield idx, 3)) (kk : VJ G M (pc + 3) lo (.ref (zad G (6)) :: st)) : VJ G M pc lo (.ref (zad G 0) :: st) := z_get C (k := 0) (ci := 0) (slot := 5) (fd := (6, 6)) (T := TX_O) (by rw [hS]; decide) (by rw [hS]; exact rfl) (by rw [hS]; exact rfl) rfl lay_O (by decide) hl d kk
theorem gX_O_fallOrder {G : zG} {cc : ByteArray} {own : String} {ret : Option FieldType} {nL fr lc : Nat} (C : zC G cc own ret nL fr lc) {M : zM} {lo : List (Option Value)} {st : List Value} {pc : Nat} (hS : G.1 = sX) {idx : Nat} (hl : Cond.fieldLink own idx "OldBeams" "fallOrder" "[I" ∈ tb) (d : decode cc pc = .ok (.getfield idx, 3)) (kk : VJ G M (pc + 3) lo (.ref (zad G (7)) :: st)) : VJ G M pc lo (.ref (zad G 0) :: st) := z_get C (k := 0) (ci := 0) (slot := 6) (fd := (6, 7)) (T := TX_O) (by rw [hS]; decide) (by rw [hS]; exact rfl) (by rw [hS]; exact rfl) rfl lay_O (by decide) hl d kk
theorem gX_F_kinds {G : zG} {cc : ByteArray} {own : String} {ret : Option FieldType} {nL fr lc : Nat} (C : zC G cc own ret nL fr lc) {M : zM} {lo : List (Option Value)} {st : List Value} {pc : Nat} (hS : G.1 = sX) {idx : Nat} (hl : Cond.fieldLink own idx "OldBeams$Frame" "kinds" "[[I" ∈ tb) (d : decode cc pc = .ok (.getfield idx, 3)) (kk : VJ G M (pc + 3) lo (.ref (zad G (8)) :: st)) : VJ G M pc lo (.ref (zad G 1) :: st) := z_get C (k := 1) (ci := 1) (slot := 0) (fd := (6, 8)) (T := TX_F) (by rw [hS]; decide) (by rw [hS]; exact rfl) (by rw [hS]; exact rfl) rfl lay_F (by decide) hl d kk
theorem gX_F_beams {G : zG} {cc : ByteArray} {own : String} {ret : Option FieldType} {nL fr lc : Nat} (C : zC G cc own ret nL fr lc) {M : zM} {lo : List (Option Value)} {st : List Value} {pc : Nat} (hS : G.1 = sX) {idx : Nat} (hl : Cond.fieldLink own idx "OldBeams$Frame" "beams" "[LOldBeams$Beam;" ∈ tb) (d : decode cc pc = .ok (.getfield idx, 3)) (kk : VJ G M (pc + 3) lo (.ref (zad G (13)) :: st)) : VJ G M pc lo (.ref (zad G 1) :: st) := z_get C (k := 1) (ci := 1) (slot := 1) (fd := (6, 13)) (T := TX_F) (by rw [hS]; decide) (by rw [hS]; exact rfl) (by rw [hS]; exact rfl) rfl lay_F (by decide) hl d kk
theorem gX_F_beamCount {G : zG} {cc : ByteArray} {own : String} {ret : Option FieldType} {nL fr lc : Nat} (C : zC G cc own ret nL fr lc) {M : zM} {lo : List (Option Value)} {st : List Value} {pc : Nat} (hS : G.1 = sX) {idx : Nat} (hl : Cond.fieldLink own idx "OldBeams$Frame" "beamCount" "I" ∈ tb) (d : decode cc pc = .ok (.getfield idx, 3)) (kk : VJ G M (pc + 3) lo (.int (iI (M.1 1 2)) :: st)) : VJ G M pc lo (.ref (zad G 1) :: st) := z_get C (k := 1) (ci := 1) (slot := 2) (fd := (0, 0)) (T := TX_F) (by rw [hS]; decide) (by rw [hS]; exact rfl) (by rw [hS]; exact rfl) rfl lay_F (by decide) hl d kk
theorem pX_F_beamCount {G : zG} {cc : ByteArray} {own : String} {ret : Option FieldType} {nL fr lc : Nat} (C : zC G cc own ret nL fr lc) {M : zM} {lo : List (Option Value)} {st : List Value} {pc : Nat} (hS : G.1 = sX) {idx : Nat} {z : Int} (hl : Cond.fieldLink own idx "OldBeams$Frame" "beamCount" "I" ∈ tb) (d : decode cc pc = .ok (.putfield idx, 3)) (kk : VJ G (zI M 1 2 z) (pc + 3) lo st) : VJ G M pc lo (.int (iI z) :: .ref (zad G 1) :: st) := z_putI C (k := 1) (ci := 1) (slot := 2) (x := 0) (T := TX_F) (ty0 := ty_F) (ty := .int) (by rw [hS]; decide) (by rw [hS]; exact rfl) (by rw [hS]; exact rfl) rfl lay_F tyok_F nm_F (by decide) rfl (by decide +kernel) rfl rfl hl d kk
theorem gX_F_fallen {G : zG} {cc : ByteArray} {own : String} {ret : Option FieldType} {nL fr lc : Nat} (C : zC G cc own ret nL fr lc) {M : zM} {lo : List (Option Value)} {st : List Value} {pc : Nat} (hS : G.1 = sX) {idx : Nat} (hl : Cond.fieldLink own idx "OldBeams$Frame" "fallen" "I" ∈ tb) (d : decode cc pc = .ok (.getfield idx, 3)) (kk : VJ G M (pc + 3) lo (.int (iI (M.1 1 3)) :: st)) : VJ G M pc lo (.ref (zad G 1) :: st) := z_get C (k := 1) (ci := 1) (slot := 3) (fd := (0, 0)) (T := TX_F) (by rw [hS]; decide) (by rw [hS]; exact rfl) (by rw [hS]; exact rfl) rfl lay_F (by decide) hl d kk
theorem pX_F_fallen {G : zG} {cc : ByteArray} {own : String} {ret : Option FieldType} {nL fr lc : Nat} (C : zC G cc own ret nL fr lc) {M : zM} {lo : List (Option Value)} {st : List Value} {pc : Nat} (hS : G.1 = sX) {idx : Nat} {z : Int} (hl : Cond.fieldLink own idx "OldBeams$Frame" "fallen" "I" ∈ tb) (d : decode cc pc = .ok (.putfield idx, 3)) (kk : VJ G (zI M 1 3 z) (pc + 3) lo st) : VJ G M pc lo (.int (iI z) :: .ref (zad G 1) :: st) := z_putI C (k := 1) (ci := 1) (slot := 3) (x := 0) (T := TX_F) (ty0 := ty_F) (ty := .int) (by rw [hS]; decide) (by rw [hS]; exact rfl) (by rw [hS]; exact rfl) rfl lay_F tyok_F nm_F (by decide) rfl (by decide +kernel) rfl rfl hl d kk
theorem gX_F_loadBeam {G : zG} {cc : ByteArray} {own : String} {ret : Option FieldType} {nL fr lc : Nat} (C : zC G cc own ret nL fr lc) {M : zM} {lo : List (Option Value)} {st : List Value} {pc : Nat} (hS : G.1 = sX) {idx : Nat} (hl : Cond.fieldLink own idx "OldBeams$Frame" "loadBeam" "[I" ∈ tb) (d : decode cc pc = .ok (.getfield idx, 3)) (kk : VJ G M (pc + 3) lo (.ref (zad G (14)) :: st)) : VJ G M pc lo (.ref (zad G 1) :: st) := z_get C (k := 1) (ci := 1) (slot := 4) (fd := (6, 14)) (T := TX_F) (by rw [hS]; decide) (by rw [hS]; exact rfl) (by rw [hS]; exact rfl) rfl lay_F (by decide) hl d kk
theorem gX_F_loadPlace {G : zG} {cc : ByteArray} {own : String} {ret : Option FieldType} {nL fr lc : Nat} (C : zC G cc own ret nL fr lc) {M : zM} {lo : List (Option Value)} {st : List Value} {pc : Nat} (hS : G.1 = sX) {idx : Nat} (hl : Cond.fieldLink own idx "OldBeams$Frame" "loadPlace" "[I" ∈ tb) (d : decode cc pc = .ok (.getfield idx, 3)) (kk : VJ G M (pc + 3) lo (.ref (zad G (15)) :: st)) : VJ G M pc lo (.ref (zad G 1) :: st) := z_get C (k := 1) (ci := 1) (slot := 5) (fd := (6, 15)) (T := TX_F) (by rw [hS]; decide) (by rw [hS]; exact rfl) (by rw [hS]; exact rfl) rfl lay_F (by decide) hl d kk
theorem gX_F_loadWeight {G : zG} {cc : ByteArray} {own : String} {ret : Option FieldType} {nL fr lc : Nat} (C : zC G cc own ret nL fr lc) {M : zM} {lo : List (Option Value)} {st : List Value} {pc : Nat} (hS : G.1 = sX) {idx : Nat} (hl : Cond.fieldLink own idx "OldBeams$Frame" "loadWeight" "[I" ∈ tb) (d : decode cc pc = .ok (.getfield idx, 3)) (kk : VJ G M (pc + 3) lo (.ref (zad G (16)) :: st)) : VJ G M pc lo (.ref (zad G 1) :: st) := z_get C (k := 1) (ci := 1) (slot := 6) (fd := (6, 16)) (T := TX_F) (by rw [hS]; decide) (by rw [hS]; exact rfl) (by rw [hS]; exact rfl) rfl lay_F (by decide) hl d kk
theorem gX_F_loadIsOn {G : zG} {cc : ByteArray} {own : String} {ret : Option FieldType} {nL fr lc : Nat} (C : zC G cc own ret nL fr lc) {M : zM} {lo : List (Option Value)} {st : List Value} {pc : Nat} (hS : G.1 = sX) {idx : Nat} (hl : Cond.fieldLink own idx "OldBeams$Frame" "loadIsOn" "[Z" ∈ tb) (d : decode cc pc = .ok (.getfield idx, 3)) (kk : VJ G M (pc + 3) lo (.ref (zad G (17)) :: st)) : VJ G M pc lo (.ref (zad G 1) :: st) := z_get C (k := 1) (ci := 1) (slot := 7) (fd := (6, 17)) (T := TX_F) (by rw [hS]; decide) (by rw [hS]; exact rfl) (by rw [hS]; exact rfl) rfl lay_F (by decide) hl d kk
theorem gX_F_loadCount {G : zG} {cc : ByteArray} {own : String} {ret : Option FieldType} {nL fr lc : Nat} (C : zC G cc own ret nL fr lc) {M : zM} {lo : List (Option Value)} {st : List Value} {pc : Nat} (hS : G.1 = sX) {idx : Nat} (hl : Cond.fieldLink own idx "OldBeams$Frame" "loadCount" "I" ∈ tb) (d : decode cc pc = .ok (.getfield idx, 3)) (kk : VJ G M (pc + 3) lo (.int (iI (M.1 1 8)) :: st)) : VJ G M pc lo (.ref (zad G 1) :: st) := z_get C (k := 1) (ci := 1) (slot := 8) (fd := (0, 0)) (T := TX_F) (by rw [hS]; decide) (by rw [hS]; exact rfl) (by rw [hS]; exact rfl) rfl lay_F (by decide) hl d kk
theorem pX_F_loadCount {G : zG} {cc : ByteArray} {own : String} {ret : Option FieldType} {nL fr lc : Nat} (C : zC G cc own ret nL fr lc) {M : zM} {lo : List (Option Value)} {st : List Value} {pc : Nat} (hS : G.1 = sX) {idx : Nat} {z : Int} (hl : Cond.fieldLink own idx "OldBeams$Frame" "loadCount" "I" ∈ tb) (d : decode cc pc = .ok (.putfield idx, 3)) (kk : VJ G (zI M 1 8 z) (pc + 3) lo st) : VJ G M pc lo (.int (iI z) :: .ref (zad G 1) :: st) := z_putI C (k := 1) (ci := 1) (slot := 8) (x := 0) (T := TX_F) (ty0 := ty_F) (ty := .int) (by rw [hS]; decide) (by rw [hS]; exact rfl) (by rw [hS]; exact rfl) rfl lay_F tyok_F nm_F (by decide) rfl (by decide +kernel) rfl rfl hl d kk
theorem gX_F_propBeam {G : zG} {cc : ByteArray} {own : String} {ret : Option FieldType} {nL fr lc : Nat} (C : zC G cc own ret nL fr lc) {M : zM} {lo : List (Option Value)} {st : List Value} {pc : Nat} (hS : G.1 = sX) {idx : Nat} (hl : Cond.fieldLink own idx "OldBeams$Frame" "propBeam" "[I" ∈ tb) (d : decode cc pc = .ok (.getfield idx, 3)) (kk : VJ G M (pc + 3) lo (.ref (zad G (18)) :: st)) : VJ G M pc lo (.ref (zad G 1) :: st) := z_get C (k := 1) (ci := 1) (slot := 9) (fd := (6, 18)) (T := TX_F) (by rw [hS]; decide) (by rw [hS]; exact rfl) (by rw [hS]; exact rfl) rfl lay_F (by decide) hl d kk
theorem gX_F_propPlace {G : zG} {cc : ByteArray} {own : String} {ret : Option FieldType} {nL fr lc : Nat} (C : zC G cc own ret nL fr lc) {M : zM} {lo : List (Option Value)} {st : List Value} {pc : Nat} (hS : G.1 = sX) {idx : Nat} (hl : Cond.fieldLink own idx "OldBeams$Frame" "propPlace" "[I" ∈ tb) (d : decode cc pc = .ok (.getfield idx, 3)) (kk : VJ G M (pc + 3) lo (.ref (zad G (19)) :: st)) : VJ G M pc lo (.ref (zad G 1) :: st) := z_get C (k := 1) (ci := 1) (slot := 10) (fd := (6, 19)) (T := TX_F) (by rw [hS]; decide) (by rw [hS]; exact rfl) (by rw [hS]; exact rfl) rfl lay_F (by decide) hl d kk
theorem gX_F_propPush {G : zG} {cc : ByteArray} {own : String} {ret : Option FieldType} {nL fr lc : Nat} (C : zC G cc own ret nL fr lc) {M : zM} {lo : List (Option Value)} {st : List Value} {pc : Nat} (hS : G.1 = sX) {idx : Nat} (hl : Cond.fieldLink own idx "OldBeams$Frame" "propPush" "[I" ∈ tb) (d : decode cc pc = .ok (.getfield idx, 3)) (kk : VJ G M (pc + 3) lo (.ref (zad G (20)) :: st)) : VJ G M pc lo (.ref (zad G 1) :: st) := z_get C (k := 1) (ci := 1) (slot := 11) (fd := (6, 20)) (T := TX_F) (by rw [hS]; decide) (by rw [hS]; exact rfl) (by rw [hS]; exact rfl) rfl lay_F (by decide) hl d kk
theorem gX_F_propCount {G : zG} {cc : ByteArray} {own : String} {ret : Option FieldType} {nL fr lc : Nat} (C : zC G cc own ret nL fr lc) {M : zM} {lo : List (Option Value)} {st : List Value} {pc : Nat} (hS : G.1 = sX) {idx : Nat} (hl : Cond.fieldLink own idx "OldBeams$Frame" "propCount" "I" ∈ tb) (d : decode cc pc = .ok (.getfield idx, 3)) (kk : VJ G M (pc + 3) lo (.int (iI (M.1 1 12)) :: st)) : VJ G M pc lo (.ref (zad G 1) :: st) := z_get C (k := 1) (ci := 1) (slot := 12) (fd := (0, 0)) (T := TX_F) (by rw [hS]; decide) (by rw [hS]; exact rfl) (by rw [hS]; exact rfl) rfl lay_F (by decide) hl d kk
theorem pX_F_propCount {G : zG} {cc : ByteArray} {own : String} {ret : Option FieldType} {nL fr lc : Nat} (C : zC G cc own ret nL fr lc) {M : zM} {lo : List (Option Value)} {st : List Value} {pc : Nat} (hS : G.1 = sX) {idx : Nat} {z : Int} (hl : Cond.fieldLink own idx "OldBeams$Frame" "propCount" "I" ∈ tb) (d : decode cc pc = .ok (.putfield idx, 3)) (kk : VJ G (zI M 1 12 z) (pc + 3) lo st) : VJ G M pc lo (.int (iI z) :: .ref (zad G 1) :: st) := z_putI C (k := 1) (ci := 1) (slot := 12) (x := 0) (T := TX_F) (ty0 := ty_F) (ty := .int) (by rw [hS]; decide) (by rw [hS]; exact rfl) (by rw [hS]; exact rfl) rfl lay_F tyok_F nm_F (by decide) rfl (by decide +kernel) rfl rfl hl d kk
theorem gX_F_setProps {G : zG} {cc : ByteArray} {own : String} {ret : Option FieldType} {nL fr lc : Nat} (C : zC G cc own ret nL fr lc) {M : zM} {lo : List (Option Value)} {st : List Value} {pc : Nat} (hS : G.1 = sX) {idx : Nat} (hl : Cond.fieldLink own idx "OldBeams$Frame" "setProps" "I" ∈ tb) (d : decode cc pc = .ok (.getfield idx, 3)) (kk : VJ G M (pc + 3) lo (.int (iI (M.1 1 13)) :: st)) : VJ G M pc lo (.ref (zad G 1) :: st) := z_get C (k := 1) (ci := 1) (slot := 13) (fd := (0, 0)) (T := TX_F) (by rw [hS]; decide) (by rw [hS]; exact rfl) (by rw [hS]; exact rfl) rfl lay_F (by decide) hl d kk
theorem pX_F_setProps {G : zG} {cc : ByteArray} {own : String} {ret : Option FieldType} {nL fr lc : Nat} (C : zC G cc own ret nL fr lc) {M : zM} {lo : List (Option Value)} {st : List Value} {pc : Nat} (hS : G.1 = sX) {idx : Nat} {z : Int} (hl : Cond.fieldLink own idx "OldBeams$Frame" "setProps" "I" ∈ tb) (d : decode cc pc = .ok (.putfield idx, 3)) (kk : VJ G (zI M 1 13 z) (pc + 3) lo st) : VJ G M pc lo (.int (iI z) :: .ref (zad G 1) :: st) := z_putI C (k := 1) (ci := 1) (slot := 13) (x := 0) (T := TX_F) (ty0 := ty_F) (ty := .int) (by rw [hS]; decide) (by rw [hS]; exact rfl) (by rw [hS]; exact rfl) rfl lay_F tyok_F nm_F (by decide) rfl (by decide +kernel) rfl rfl hl d kk
theorem gX_F_triedDown {G : zG} {cc : ByteArray} {own : String} {ret : Option FieldType} {nL fr lc : Nat} (C : zC G cc own ret nL fr lc) {M : zM} {lo : List (Option Value)} {st : List Value} {pc : Nat} (hS : G.1 = sX) {idx : Nat} (hl : Cond.fieldLink own idx "OldBeams$Frame" "triedDown" "I" ∈ tb) (d : decode cc pc = .ok (.getfield idx, 3)) (kk : VJ G M (pc + 3) lo (.int (iI (M.1 1 14)) :: st)) : VJ G M pc lo (.ref (zad G 1) :: st) := z_get C (k := 1) (ci := 1) (slot := 14) (fd := (0, 0)) (T := TX_F) (by rw [hS]; decide) (by rw [hS]; exact rfl) (by rw [hS]; exact rfl) rfl lay_F (by decide) hl d kk
theorem pX_F_triedDown {G : zG} {cc : ByteArray} {own : String} {ret : Option FieldType} {nL fr lc : Nat} (C : zC G cc own ret nL fr lc) {M : zM} {lo : List (Option Value)} {st : List Value} {pc : Nat} (hS : G.1 = sX) {idx : Nat} {z : Int} (hl : Cond.fieldLink own idx "OldBeams$Frame" "triedDown" "I" ∈ tb) (d : decode cc pc = .ok (.putfield idx, 3)) (kk : VJ G (zI M 1 14 z) (pc + 3) lo st) : VJ G M pc lo (.int (iI z) :: .ref (zad G 1) :: st) := z_putI C (k := 1) (ci := 1) (slot := 14) (x := 0) (T := TX_F) (ty0 := ty_F) (ty := .int) (by rw [hS]; decide) (by rw [hS]; exact rfl) (by rw [hS]; exact rfl) rfl lay_F tyok_F nm_F (by decide) rfl (by decide +kernel) rfl rfl hl d kk
theorem gX_K_weights {G : zG} {cc : ByteArray} {own : String} {ret : Option FieldType} {nL fr lc : Nat} (C : zC G cc own ret nL fr lc) {M : zM} {lo : List (Option Value)} {st : List Value} {pc : Nat} (hS : G.1 = sX) {idx : Nat} (hl : Cond.fieldLink own idx "OldBeams$Looks" "weights" "[[I" ∈ tb) (d : decode cc pc = .ok (.getfield idx, 3)) (kk : VJ G M (pc + 3) lo (.ref (zad G (21)) :: st)) : VJ G M pc lo (.ref (zad G 2) :: st) := z_get C (k := 2) (ci := 2) (slot := 0) (fd := (6, 21)) (T := TX_K) (by rw [hS]; decide) (by rw [hS]; exact rfl) (by rw [hS]; exact rfl) rfl lay_K (by decide) hl d kk
theorem gX_K_tools {G : zG} {cc : ByteArray} {own : String} {ret : Option FieldType} {nL fr lc : Nat} (C : zC G cc own ret nL fr lc) {M : zM} {lo : List (Option Value)} {st : List Value} {pc : Nat} (hS : G.1 = sX) {idx : Nat} (hl : Cond.fieldLink own idx "OldBeams$Looks" "tools" "[[I" ∈ tb) (d : decode cc pc = .ok (.getfield idx, 3)) (kk : VJ G M (pc + 3) lo (.ref (zad G (34)) :: st)) : VJ G M pc lo (.ref (zad G 2) :: st) := z_get C (k := 2) (ci := 2) (slot := 1) (fd := (6, 34)) (T := TX_K) (by rw [hS]; decide) (by rw [hS]; exact rfl) (by rw [hS]; exact rfl) rfl lay_K (by decide) hl d kk
theorem gX_K_lookBeam {G : zG} {cc : ByteArray} {own : String} {ret : Option FieldType} {nL fr lc : Nat} (C : zC G cc own ret nL fr lc) {M : zM} {lo : List (Option Value)} {st : List Value} {pc : Nat} (hS : G.1 = sX) {idx : Nat} (hl : Cond.fieldLink own idx "OldBeams$Looks" "lookBeam" "[I" ∈ tb) (d : decode cc pc = .ok (.getfield idx, 3)) (kk : VJ G M (pc + 3) lo (.ref (zad G (39)) :: st)) : VJ G M pc lo (.ref (zad G 2) :: st) := z_get C (k := 2) (ci := 2) (slot := 2) (fd := (6, 39)) (T := TX_K) (by rw [hS]; decide) (by rw [hS]; exact rfl) (by rw [hS]; exact rfl) rfl lay_K (by decide) hl d kk
theorem gX_K_lookTool {G : zG} {cc : ByteArray} {own : String} {ret : Option FieldType} {nL fr lc : Nat} (C : zC G cc own ret nL fr lc) {M : zM} {lo : List (Option Value)} {st : List Value} {pc : Nat} (hS : G.1 = sX) {idx : Nat} (hl : Cond.fieldLink own idx "OldBeams$Looks" "lookTool" "[I" ∈ tb) (d : decode cc pc = .ok (.getfield idx, 3)) (kk : VJ G M (pc + 3) lo (.ref (zad G (40)) :: st)) : VJ G M pc lo (.ref (zad G 2) :: st) := z_get C (k := 2) (ci := 2) (slot := 3) (fd := (6, 40)) (T := TX_K) (by rw [hS]; decide) (by rw [hS]; exact rfl) (by rw [hS]; exact rfl) rfl lay_K (by decide) hl d kk
theorem gX_K_lookOutcome {G : zG} {cc : ByteArray} {own : String} {ret : Option FieldType} {nL fr lc : Nat} (C : zC G cc own ret nL fr lc) {M : zM} {lo : List (Option Value)} {st : List Value} {pc : Nat} (hS : G.1 = sX) {idx : Nat} (hl : Cond.fieldLink own idx "OldBeams$Looks" "lookOutcome" "[I" ∈ tb) (d : decode cc pc = .ok (.getfield idx, 3)) (kk : VJ G M (pc + 3) lo (.ref (zad G (41)) :: st)) : VJ G M pc lo (.ref (zad G 2) :: st) := z_get C (k := 2) (ci := 2) (slot := 4) (fd := (6, 41)) (T := TX_K) (by rw [hS]; decide) (by rw [hS]; exact rfl) (by rw [hS]; exact rfl) rfl lay_K (by decide) hl d kk
theorem gX_K_lookYear {G : zG} {cc : ByteArray} {own : String} {ret : Option FieldType} {nL fr lc : Nat} (C : zC G cc own ret nL fr lc) {M : zM} {lo : List (Option Value)} {st : List Value} {pc : Nat} (hS : G.1 = sX) {idx : Nat} (hl : Cond.fieldLink own idx "OldBeams$Looks" "lookYear" "[I" ∈ tb) (d : decode cc pc = .ok (.getfield idx, 3)) (kk : VJ G M (pc + 3) lo (.ref (zad G (42)) :: st)) : VJ G M pc lo (.ref (zad G 2) :: st) := z_get C (k := 2) (ci := 2) (slot := 5) (fd := (6, 42)) (T := TX_K) (by rw [hS]; decide) (by rw [hS]; exact rfl) (by rw [hS]; exact rfl) rfl lay_K (by decide) hl d kk
theorem gX_K_lookCount {G : zG} {cc : ByteArray} {own : String} {ret : Option FieldType} {nL fr lc : Nat} (C : zC G cc own ret nL fr lc) {M : zM} {lo : List (Option Value)} {st : List Value} {pc : Nat} (hS : G.1 = sX) {idx : Nat} (hl : Cond.fieldLink own idx "OldBeams$Looks" "lookCount" "I" ∈ tb) (d : decode cc pc = .ok (.getfield idx, 3)) (kk : VJ G M (pc + 3) lo (.int (iI (M.1 2 6)) :: st)) : VJ G M pc lo (.ref (zad G 2) :: st) := z_get C (k := 2) (ci := 2) (slot := 6) (fd := (0, 0)) (T := TX_K) (by rw [hS]; decide) (by rw [hS]; exact rfl) (by rw [hS]; exact rfl) rfl lay_K (by decide) hl d kk
theorem pX_K_lookCount {G : zG} {cc : ByteArray} {own : String} {ret : Option FieldType} {nL fr lc : Nat} (C : zC G cc own ret nL fr lc) {M : zM} {lo : List (Option Value)} {st : List Value} {pc : Nat} (hS : G.1 = sX) {idx : Nat} {z : Int} (hl : Cond.fieldLink own idx "OldBeams$Looks" "lookCount" "I" ∈ tb) (d : decode cc pc = .ok (.putfield idx, 3)) (kk : VJ G (zI M 2 6 z) (pc + 3) lo st) : VJ G M pc lo (.int (iI z) :: .ref (zad G 2) :: st) := z_putI C (k := 2) (ci := 2) (slot := 6) (x := 0) (T := TX_K) (ty0 := ty_K) (ty := .int) (by rw [hS]; decide) (by rw [hS]; exact rfl) (by rw [hS]; exact rfl) rfl lay_K tyok_K nm_K (by decide) rfl (by decide +kernel) rfl rfl hl d kk
theorem gX_K_known {G : zG} {cc : ByteArray} {own : String} {ret : Option FieldType} {nL fr lc : Nat} (C : zC G cc own ret nL fr lc) {M : zM} {lo : List (Option Value)} {st : List Value} {pc : Nat} (hS : G.1 = sX) {idx : Nat} (hl : Cond.fieldLink own idx "OldBeams$Looks" "known" "[J" ∈ tb) (d : decode cc pc = .ok (.getfield idx, 3)) (kk : VJ G M (pc + 3) lo (.ref (zad G (43)) :: st)) : VJ G M pc lo (.ref (zad G 2) :: st) := z_get C (k := 2) (ci := 2) (slot := 7) (fd := (6, 43)) (T := TX_K) (by rw [hS]; decide) (by rw [hS]; exact rfl) (by rw [hS]; exact rfl) rfl lay_K (by decide) hl d kk
theorem gX_K_next {G : zG} {cc : ByteArray} {own : String} {ret : Option FieldType} {nL fr lc : Nat} (C : zC G cc own ret nL fr lc) {M : zM} {lo : List (Option Value)} {st : List Value} {pc : Nat} (hS : G.1 = sX) {idx : Nat} (hl : Cond.fieldLink own idx "OldBeams$Looks" "next" "[J" ∈ tb) (d : decode cc pc = .ok (.getfield idx, 3)) (kk : VJ G M (pc + 3) lo (.ref (zad G (44)) :: st)) : VJ G M pc lo (.ref (zad G 2) :: st) := z_get C (k := 2) (ci := 2) (slot := 8) (fd := (6, 44)) (T := TX_K) (by rw [hS]; decide) (by rw [hS]; exact rfl) (by rw [hS]; exact rfl) rfl lay_K (by decide) hl d kk
theorem gX_Q_above {G : zG} {cc : ByteArray} {own : String} {ret : Option FieldType} {nL fr lc : Nat} (C : zC G cc own ret nL fr lc) {M : zM} {lo : List (Option Value)} {st : List Value} {pc : Nat} (hS : G.1 = sX) {k : Nat} (hk : k = 3 ∨ k = 4) {idx : Nat} (hl : Cond.fieldLink own idx "OldBeams$Fraction" "above" "J" ∈ tb) (d : decode cc pc = .ok (.getfield idx, 3)) (kk : VJ G M (pc + 3) lo (.long (M.2 k 0) :: st)) : VJ G M pc lo (.ref (zad G k) :: st) := z_get C (k := k) (ci := 3) (slot := 0) (fd := (2, 0)) (T := TX_Q) (by rw [hS]; rcases hk with rfl | rfl <;> decide) (by rw [hS]; exact (by rcases hk with rfl | rfl <;> rfl)) (by rw [hS]; exact (by rcases hk with rfl | rfl <;> rfl)) rfl lay_Q (by decide) hl d kk
theorem pX_Q_above {G : zG} {cc : ByteArray} {own : String} {ret : Option FieldType} {nL fr lc : Nat} (C : zC G cc own ret nL fr lc) {M : zM} {lo : List (Option Value)} {st : List Value} {pc : Nat} (hS : G.1 = sX) {k : Nat} (hk : k = 3 ∨ k = 4) {idx : Nat} {z : Int64} (hl : Cond.fieldLink own idx "OldBeams$Fraction" "above" "J" ∈ tb) (d : decode cc pc = .ok (.putfield idx, 3)) (kk : VJ G (zJ M k 0 z) (pc + 3) lo st) : VJ G M pc lo (.long z :: .ref (zad G k) :: st) := z_putJ C (k := k) (ci := 3) (slot := 0) (x := 0) (T := TX_Q) (ty0 := ty_Q) (by rw [hS]; rcases hk with rfl | rfl <;> decide) (by rw [hS]; exact (by rcases hk with rfl | rfl <;> rfl)) (by rw [hS]; exact (by rcases hk with rfl | rfl <;> rfl)) rfl lay_Q tyok_Q nm_Q (by decide) rfl (by decide +kernel) hl d kk
theorem gX_Q_below {G : zG} {cc : ByteArray} {own : String} {ret : Option FieldType} {nL fr lc : Nat} (C : zC G cc own ret nL fr lc) {M : zM} {lo : List (Option Value)} {st : List Value} {pc : Nat} (hS : G.1 = sX) {k : Nat} (hk : k = 3 ∨ k = 4) {idx : Nat} (hl : Cond.fieldLink own idx "OldBeams$Fraction" "below" "J" ∈ tb) (d : decode cc pc = .ok (.getfield idx, 3)) (kk : VJ G M (pc + 3) lo (.long (M.2 k 1) :: st)) : VJ G M pc lo (.ref (zad G k) :: st) := z_get C (k := k) (ci := 3) (slot := 1) (fd := (2, 0)) (T := TX_Q) (by rw [hS]; rcases hk with rfl | rfl <;> decide) (by rw [hS]; exact (by rcases hk with rfl | rfl <;> rfl)) (by rw [hS]; exact (by rcases hk with rfl | rfl <;> rfl)) rfl lay_Q (by decide) hl d kk
theorem pX_Q_below {G : zG} {cc : ByteArray} {own : String} {ret : Option FieldType} {nL fr lc : Nat} (C : zC G cc own ret nL fr lc) {M : zM} {lo : List (Option Value)} {st : List Value} {pc : Nat} (hS : G.1 = sX) {k : Nat} (hk : k = 3 ∨ k = 4) {idx : Nat} {z : Int64} (hl : Cond.fieldLink own idx "OldBeams$Fraction" "below" "J" ∈ tb) (d : decode cc pc = .ok (.putfield idx, 3)) (kk : VJ G (zJ M k 1 z) (pc + 3) lo st) : VJ G M pc lo (.long z :: .ref (zad G k) :: st) := z_putJ C (k := k) (ci := 3) (slot := 1) (x := 0) (T := TX_Q) (ty0 := ty_Q) (by rw [hS]; rcases hk with rfl | rfl <;> decide) (by rw [hS]; exact (by rcases hk with rfl | rfl <;> rfl)) (by rw [hS]; exact (by rcases hk with rfl | rfl <;> rfl)) rfl lay_Q tyok_Q nm_Q (by decide) rfl (by decide +kernel) hl d kk
theorem gX_B_kind {G : zG} {cc : ByteArray} {own : String} {ret : Option FieldType} {nL fr lc : Nat} (C : zC G cc own ret nL fr lc) {M : zM} {lo : List (Option Value)} {st : List Value} {pc : Nat} (hS : G.1 = sX) {i : Nat} (hi : i < 12) {idx : Nat} (hl : Cond.fieldLink own idx "OldBeams$Beam" "kind" "I" ∈ tb) (d : decode cc pc = .ok (.getfield idx, 3)) (kk : VJ G M (pc + 3) lo (.int (iI (M.1 (45 + 7 * i) 0)) :: st)) : VJ G M pc lo (.ref (zad G (45 + 7 * i)) :: st) := z_get C (k := (45 + 7 * i)) (ci := 4) (slot := 0) (fd := (0, 0)) (T := TX_B) (by rw [hS]; show 45 + 7 * i < 129; omega) (by rw [hS]; exact (shB0 i)) (by rw [hS]; show (dsX (45 + 7 * i))[0]? = some (0, 0); rw [dsB]; rfl) rfl lay_B (by decide) hl d kk
theorem pX_B_kind {G : zG} {cc : ByteArray} {own : String} {ret : Option FieldType} {nL fr lc : Nat} (C : zC G cc own ret nL fr lc) {M : zM} {lo : List (Option Value)} {st : List Value} {pc : Nat} (hS : G.1 = sX) {i : Nat} (hi : i < 12) {idx : Nat} {z : Int} (hl : Cond.fieldLink own idx "OldBeams$Beam" "kind" "I" ∈ tb) (d : decode cc pc = .ok (.putfield idx, 3)) (kk : VJ G (zI M (45 + 7 * i) 0 z) (pc + 3) lo st) : VJ G M pc lo (.int (iI z) :: .ref (zad G (45 + 7 * i)) :: st) := z_putI C (k := (45 + 7 * i)) (ci := 4) (slot := 0) (x := 0) (T := TX_B) (ty0 := ty_B) (ty := .int) (by rw [hS]; show 45 + 7 * i < 129; omega) (by rw [hS]; exact (shB0 i)) (by rw [hS]; show (dsX (45 + 7 * i))[0]? = some (0, 0); rw [dsB]; rfl) rfl lay_B tyok_B nm_B (by decide) rfl (by decide +kernel) rfl rfl hl d kk
theorem gX_B_length {G : zG} {cc : ByteArray} {own : String} {ret : Option FieldType} {nL fr lc : Nat} (C : zC G cc own ret nL fr lc) {M : zM} {lo : List (Option Value)} {st : List Value} {pc : Nat} (hS : G.1 = sX) {i : Nat} (hi : i < 12) {idx : Nat} (hl : Cond.fieldLink own idx "OldBeams$Beam" "length" "I" ∈ tb) (d : decode cc pc = .ok (.getfield idx, 3)) (kk : VJ G M (pc + 3) lo (.int (iI (M.1 (45 + 7 * i) 1)) :: st)) : VJ G M pc lo (.ref (zad G (45 + 7 * i)) :: st) := z_get C (k := (45 + 7 * i)) (ci := 4) (slot := 1) (fd := (0, 0)) (T := TX_B) (by rw [hS]; show 45 + 7 * i < 129; omega) (by rw [hS]; exact (shB0 i)) (by rw [hS]; show (dsX (45 + 7 * i))[1]? = some (0, 0); rw [dsB]; rfl) rfl lay_B (by decide) hl d kk
theorem pX_B_length {G : zG} {cc : ByteArray} {own : String} {ret : Option FieldType} {nL fr lc : Nat} (C : zC G cc own ret nL fr lc) {M : zM} {lo : List (Option Value)} {st : List Value} {pc : Nat} (hS : G.1 = sX) {i : Nat} (hi : i < 12) {idx : Nat} {z : Int} (hl : Cond.fieldLink own idx "OldBeams$Beam" "length" "I" ∈ tb) (d : decode cc pc = .ok (.putfield idx, 3)) (kk : VJ G (zI M (45 + 7 * i) 1 z) (pc + 3) lo st) : VJ G M pc lo (.int (iI z) :: .ref (zad G (45 + 7 * i)) :: st) := z_putI C (k := (45 + 7 * i)) (ci := 4) (slot := 1) (x := 0) (T := TX_B) (ty0 := ty_B) (ty := .int) (by rw [hS]; show 45 + 7 * i < 129; omega) (by rw [hS]; exact (shB0 i)) (by rw [hS]; show (dsX (45 + 7 * i))[1]? = some (0, 0); rw [dsB]; rfl) rfl lay_B tyok_B nm_B (by decide) rfl (by decide +kernel) rfl rfl hl d kk
theorem gX_B_width {G : zG} {cc : ByteArray} {own : String} {ret : Option FieldType} {nL fr lc : Nat} (C : zC G cc own ret nL fr lc) {M : zM} {lo : List (Option Value)} {st : List Value} {pc : Nat} (hS : G.1 = sX) {i : Nat} (hi : i < 12) {idx : Nat} (hl : Cond.fieldLink own idx "OldBeams$Beam" "width" "I" ∈ tb) (d : decode cc pc = .ok (.getfield idx, 3)) (kk : VJ G M (pc + 3) lo (.int (iI (M.1 (45 + 7 * i) 2)) :: st)) : VJ G M pc lo (.ref (zad G (45 + 7 * i)) :: st) := z_get C (k := (45 + 7 * i)) (ci := 4) (slot := 2) (fd := (0, 0)) (T := TX_B) (by rw [hS]; show 45 + 7 * i < 129; omega) (by rw [hS]; exact (shB0 i)) (by rw [hS]; show (dsX (45 + 7 * i))[2]? = some (0, 0); rw [dsB]; rfl) rfl lay_B (by decide) hl d kk
theorem pX_B_width {G : zG} {cc : ByteArray} {own : String} {ret : Option FieldType} {nL fr lc : Nat} (C : zC G cc own ret nL fr lc) {M : zM} {lo : List (Option Value)} {st : List Value} {pc : Nat} (hS : G.1 = sX) {i : Nat} (hi : i < 12) {idx : Nat} {z : Int} (hl : Cond.fieldLink own idx "OldBeams$Beam" "width" "I" ∈ tb) (d : decode cc pc = .ok (.putfield idx, 3)) (kk : VJ G (zI M (45 + 7 * i) 2 z) (pc + 3) lo st) : VJ G M pc lo (.int (iI z) :: .ref (zad G (45 + 7 * i)) :: st) := z_putI C (k := (45 + 7 * i)) (ci := 4) (slot := 2) (x := 0) (T := TX_B) (ty0 := ty_B) (ty := .int) (by rw [hS]; show 45 + 7 * i < 129; omega) (by rw [hS]; exact (shB0 i)) (by rw [hS]; show (dsX (45 + 7 * i))[2]? = some (0, 0); rw [dsB]; rfl) rfl lay_B tyok_B nm_B (by decide) rfl (by decide +kernel) rfl rfl hl d kk
theorem gX_B_height {G : zG} {cc : ByteArray} {own : String} {ret : Option FieldType} {nL fr lc : Nat} (C : zC G cc own ret nL fr lc) {M : zM} {lo : List (Option Value)} {st : List Value} {pc : Nat} (hS : G.1 = sX) {i : Nat} (hi : i < 12) {idx : Nat} (hl : Cond.fieldLink own idx "OldBeams$Beam" "height" "I" ∈ tb) (d : decode cc pc = .ok (.getfield idx, 3)) (kk : VJ G M (pc + 3) lo (.int (iI (M.1 (45 + 7 * i) 3)) :: st)) : VJ G M pc lo (.ref (zad G (45 + 7 * i)) :: st) := z_get C (k := (45 + 7 * i)) (ci := 4) (slot := 3) (fd := (0, 0)) (T := TX_B) (by rw [hS]; show 45 + 7 * i < 129; omega) (by rw [hS]; exact (shB0 i)) (by rw [hS]; show (dsX (45 + 7 * i))[3]? = some (0, 0); rw [dsB]; rfl) rfl lay_B (by decide) hl d kk
theorem pX_B_height {G : zG} {cc : ByteArray} {own : String} {ret : Option FieldType} {nL fr lc : Nat} (C : zC G cc own ret nL fr lc) {M : zM} {lo : List (Option Value)} {st : List Value} {pc : Nat} (hS : G.1 = sX) {i : Nat} (hi : i < 12) {idx : Nat} {z : Int} (hl : Cond.fieldLink own idx "OldBeams$Beam" "height" "I" ∈ tb) (d : decode cc pc = .ok (.putfield idx, 3)) (kk : VJ G (zI M (45 + 7 * i) 3 z) (pc + 3) lo st) : VJ G M pc lo (.int (iI z) :: .ref (zad G (45 + 7 * i)) :: st) := z_putI C (k := (45 + 7 * i)) (ci := 4) (slot := 3) (x := 0) (T := TX_B) (ty0 := ty_B) (ty := .int) (by rw [hS]; show 45 + 7 * i < 129; omega) (by rw [hS]; exact (shB0 i)) (by rw [hS]; show (dsX (45 + 7 * i))[3]? = some (0, 0); rw [dsB]; rfl) rfl lay_B tyok_B nm_B (by decide) rfl (by decide +kernel) rfl rfl hl d kk
theorem gX_B_isWet {G : zG} {cc : ByteArray} {own : String} {ret : Option FieldType} {nL fr lc : Nat} (C : zC G cc own ret nL fr lc) {M : zM} {lo : List (Option Value)} {st : List Value} {pc : Nat} (hS : G.1 = sX) {i : Nat} (hi : i < 12) {idx : Nat} (hl : Cond.fieldLink own idx "OldBeams$Beam" "isWet" "Z" ∈ tb) (d : decode cc pc = .ok (.getfield idx, 3)) (kk : VJ G M (pc + 3) lo (.int (iI (M.1 (45 + 7 * i) 4)) :: st)) : VJ G M pc lo (.ref (zad G (45 + 7 * i)) :: st) := z_get C (k := (45 + 7 * i)) (ci := 4) (slot := 4) (fd := (0, 0)) (T := TX_B) (by rw [hS]; show 45 + 7 * i < 129; omega) (by rw [hS]; exact (shB0 i)) (by rw [hS]; show (dsX (45 + 7 * i))[4]? = some (0, 0); rw [dsB]; rfl) rfl lay_B (by decide) hl d kk
theorem pX_B_isWet {G : zG} {cc : ByteArray} {own : String} {ret : Option FieldType} {nL fr lc : Nat} (C : zC G cc own ret nL fr lc) {M : zM} {lo : List (Option Value)} {st : List Value} {pc : Nat} (hS : G.1 = sX) {i : Nat} (hi : i < 12) {idx : Nat} {z : Int} (h01 : z = 0 ∨ z = 1) (hl : Cond.fieldLink own idx "OldBeams$Beam" "isWet" "Z" ∈ tb) (d : decode cc pc = .ok (.putfield idx, 3)) (kk : VJ G (zI M (45 + 7 * i) 4 z) (pc + 3) lo st) : VJ G M pc lo (.int (iI z) :: .ref (zad G (45 + 7 * i)) :: st) := z_putI C (k := (45 + 7 * i)) (ci := 4) (slot := 4) (x := 0) (T := TX_B) (ty0 := ty_B) (ty := .boolean) (by rw [hS]; show 45 + 7 * i < 129; omega) (by rw [hS]; exact (shB0 i)) (by rw [hS]; show (dsX (45 + 7 * i))[4]? = some (0, 0); rw [dsB]; rfl) rfl lay_B tyok_B nm_B (by decide) rfl (by decide +kernel) (by rcases h01 with rfl | rfl <;> rfl) (by rcases h01 with rfl | rfl <;> rfl) hl d kk
theorem gX_B_place {G : zG} {cc : ByteArray} {own : String} {ret : Option FieldType} {nL fr lc : Nat} (C : zC G cc own ret nL fr lc) {M : zM} {lo : List (Option Value)} {st : List Value} {pc : Nat} (hS : G.1 = sX) {i : Nat} (hi : i < 12) {idx : Nat} (hl : Cond.fieldLink own idx "OldBeams$Beam" "place" "[I" ∈ tb) (d : decode cc pc = .ok (.getfield idx, 3)) (kk : VJ G M (pc + 3) lo (.ref (zad G (45 + 7 * i + 1)) :: st)) : VJ G M pc lo (.ref (zad G (45 + 7 * i)) :: st) := z_get C (k := (45 + 7 * i)) (ci := 4) (slot := 5) (fd := (6, 45 + 7 * i + 1)) (T := TX_B) (by rw [hS]; show 45 + 7 * i < 129; omega) (by rw [hS]; exact (shB0 i)) (by rw [hS]; show (dsX (45 + 7 * i))[5]? = some (6, 45 + 7 * i + 1); rw [dsB]; rfl) rfl lay_B (by decide) hl d kk
theorem gX_B_on {G : zG} {cc : ByteArray} {own : String} {ret : Option FieldType} {nL fr lc : Nat} (C : zC G cc own ret nL fr lc) {M : zM} {lo : List (Option Value)} {st : List Value} {pc : Nat} (hS : G.1 = sX) {i : Nat} (hi : i < 12) {idx : Nat} (hl : Cond.fieldLink own idx "OldBeams$Beam" "on" "[I" ∈ tb) (d : decode cc pc = .ok (.getfield idx, 3)) (kk : VJ G M (pc + 3) lo (.ref (zad G (45 + 7 * i + 2)) :: st)) : VJ G M pc lo (.ref (zad G (45 + 7 * i)) :: st) := z_get C (k := (45 + 7 * i)) (ci := 4) (slot := 6) (fd := (6, 45 + 7 * i + 2)) (T := TX_B) (by rw [hS]; show 45 + 7 * i < 129; omega) (by rw [hS]; exact (shB0 i)) (by rw [hS]; show (dsX (45 + 7 * i))[6]? = some (6, 45 + 7 * i + 2); rw [dsB]; rfl) rfl lay_B (by decide) hl d kk
theorem gX_B_where {G : zG} {cc : ByteArray} {own : String} {ret : Option FieldType} {nL fr lc : Nat} (C : zC G cc own ret nL fr lc) {M : zM} {lo : List (Option Value)} {st : List Value} {pc : Nat} (hS : G.1 = sX) {i : Nat} (hi : i < 12) {idx : Nat} (hl : Cond.fieldLink own idx "OldBeams$Beam" "where" "[I" ∈ tb) (d : decode cc pc = .ok (.getfield idx, 3)) (kk : VJ G M (pc + 3) lo (.ref (zad G (45 + 7 * i + 3)) :: st)) : VJ G M pc lo (.ref (zad G (45 + 7 * i)) :: st) := z_get C (k := (45 + 7 * i)) (ci := 4) (slot := 7) (fd := (6, 45 + 7 * i + 3)) (T := TX_B) (by rw [hS]; show 45 + 7 * i < 129; omega) (by rw [hS]; exact (shB0 i)) (by rw [hS]; show (dsX (45 + 7 * i))[7]? = some (6, 45 + 7 * i + 3); rw [dsB]; rfl) rfl lay_B (by decide) hl d kk
theorem gX_B_loaded {G : zG} {cc : ByteArray} {own : String} {ret : Option FieldType} {nL fr lc : Nat} (C : zC G cc own ret nL fr lc) {M : zM} {lo : List (Option Value)} {st : List Value} {pc : Nat} (hS : G.1 = sX) {i : Nat} (hi : i < 12) {idx : Nat} (hl : Cond.fieldLink own idx "OldBeams$Beam" "loaded" "[J" ∈ tb) (d : decode cc pc = .ok (.getfield idx, 3)) (kk : VJ G M (pc + 3) lo (.ref (zad G (45 + 7 * i + 4)) :: st)) : VJ G M pc lo (.ref (zad G (45 + 7 * i)) :: st) := z_get C (k := (45 + 7 * i)) (ci := 4) (slot := 8) (fd := (6, 45 + 7 * i + 4)) (T := TX_B) (by rw [hS]; show 45 + 7 * i < 129; omega) (by rw [hS]; exact (shB0 i)) (by rw [hS]; show (dsX (45 + 7 * i))[8]? = some (6, 45 + 7 * i + 4); rw [dsB]; rfl) rfl lay_B (by decide) hl d kk
theorem gX_B_forces {G : zG} {cc : ByteArray} {own : String} {ret : Option FieldType} {nL fr lc : Nat} (C : zC G cc own ret nL fr lc) {M : zM} {lo : List (Option Value)} {st : List Value} {pc : Nat} (hS : G.1 = sX) {i : Nat} (hi : i < 12) {idx : Nat} (hl : Cond.fieldLink own idx "OldBeams$Beam" "forces" "[J" ∈ tb) (d : decode cc pc = .ok (.getfield idx, 3)) (kk : VJ G M (pc + 3) lo (.ref (zad G (45 + 7 * i + 5)) :: st)) : VJ G M pc lo (.ref (zad G (45 + 7 * i)) :: st) := z_get C (k := (45 + 7 * i)) (ci := 4) (slot := 9) (fd := (6, 45 + 7 * i + 5)) (T := TX_B) (by rw [hS]; show 45 + 7 * i < 129; omega) (by rw [hS]; exact (shB0 i)) (by rw [hS]; show (dsX (45 + 7 * i))[9]? = some (6, 45 + 7 * i + 5); rw [dsB]; rfl) rfl lay_B (by decide) hl d kk
theorem gX_B_push {G : zG} {cc : ByteArray} {own : String} {ret : Option FieldType} {nL fr lc : Nat} (C : zC G cc own ret nL fr lc) {M : zM} {lo : List (Option Value)} {st : List Value} {pc : Nat} (hS : G.1 = sX) {i : Nat} (hi : i < 12) {idx : Nat} (hl : Cond.fieldLink own idx "OldBeams$Beam" "push" "[J" ∈ tb) (d : decode cc pc = .ok (.getfield idx, 3)) (kk : VJ G M (pc + 3) lo (.ref (zad G (45 + 7 * i + 6)) :: st)) : VJ G M pc lo (.ref (zad G (45 + 7 * i)) :: st) := z_get C (k := (45 + 7 * i)) (ci := 4) (slot := 10) (fd := (6, 45 + 7 * i + 6)) (T := TX_B) (by rw [hS]; show 45 + 7 * i < 129; omega) (by rw [hS]; exact (shB0 i)) (by rw [hS]; show (dsX (45 + 7 * i))[10]? = some (6, 45 + 7 * i + 6); rw [dsB]; rfl) rfl lay_B (by decide) hl d kk
theorem gX_B_greatestBending {G : zG} {cc : ByteArray} {own : String} {ret : Option FieldType} {nL fr lc : Nat} (C : zC G cc own ret nL fr lc) {M : zM} {lo : List (Option Value)} {st : List Value} {pc : Nat} (hS : G.1 = sX) {i : Nat} (hi : i < 12) {idx : Nat} (hl : Cond.fieldLink own idx "OldBeams$Beam" "greatestBending" "J" ∈ tb) (d : decode cc pc = .ok (.getfield idx, 3)) (kk : VJ G M (pc + 3) lo (.long (M.2 (45 + 7 * i) 11) :: st)) : VJ G M pc lo (.ref (zad G (45 + 7 * i)) :: st) := z_get C (k := (45 + 7 * i)) (ci := 4) (slot := 11) (fd := (2, 0)) (T := TX_B) (by rw [hS]; show 45 + 7 * i < 129; omega) (by rw [hS]; exact (shB0 i)) (by rw [hS]; show (dsX (45 + 7 * i))[11]? = some (2, 0); rw [dsB]; rfl) rfl lay_B (by decide) hl d kk
theorem pX_B_greatestBending {G : zG} {cc : ByteArray} {own : String} {ret : Option FieldType} {nL fr lc : Nat} (C : zC G cc own ret nL fr lc) {M : zM} {lo : List (Option Value)} {st : List Value} {pc : Nat} (hS : G.1 = sX) {i : Nat} (hi : i < 12) {idx : Nat} {z : Int64} (hl : Cond.fieldLink own idx "OldBeams$Beam" "greatestBending" "J" ∈ tb) (d : decode cc pc = .ok (.putfield idx, 3)) (kk : VJ G (zJ M (45 + 7 * i) 11 z) (pc + 3) lo st) : VJ G M pc lo (.long z :: .ref (zad G (45 + 7 * i)) :: st) := z_putJ C (k := (45 + 7 * i)) (ci := 4) (slot := 11) (x := 0) (T := TX_B) (ty0 := ty_B) (by rw [hS]; show 45 + 7 * i < 129; omega) (by rw [hS]; exact (shB0 i)) (by rw [hS]; show (dsX (45 + 7 * i))[11]? = some (2, 0); rw [dsB]; rfl) rfl lay_B tyok_B nm_B (by decide) rfl (by decide +kernel) hl d kk
theorem gX_B_greatestPlace {G : zG} {cc : ByteArray} {own : String} {ret : Option FieldType} {nL fr lc : Nat} (C : zC G cc own ret nL fr lc) {M : zM} {lo : List (Option Value)} {st : List Value} {pc : Nat} (hS : G.1 = sX) {i : Nat} (hi : i < 12) {idx : Nat} (hl : Cond.fieldLink own idx "OldBeams$Beam" "greatestPlace" "I" ∈ tb) (d : decode cc pc = .ok (.getfield idx, 3)) (kk : VJ G M (pc + 3) lo (.int (iI (M.1 (45 + 7 * i) 12)) :: st)) : VJ G M pc lo (.ref (zad G (45 + 7 * i)) :: st) := z_get C (k := (45 + 7 * i)) (ci := 4) (slot := 12) (fd := (0, 0)) (T := TX_B) (by rw [hS]; show 45 + 7 * i < 129; omega) (by rw [hS]; exact (shB0 i)) (by rw [hS]; show (dsX (45 + 7 * i))[12]? = some (0, 0); rw [dsB]; rfl) rfl lay_B (by decide) hl d kk
theorem pX_B_greatestPlace {G : zG} {cc : ByteArray} {own : String} {ret : Option FieldType} {nL fr lc : Nat} (C : zC G cc own ret nL fr lc) {M : zM} {lo : List (Option Value)} {st : List Value} {pc : Nat} (hS : G.1 = sX) {i : Nat} (hi : i < 12) {idx : Nat} {z : Int} (hl : Cond.fieldLink own idx "OldBeams$Beam" "greatestPlace" "I" ∈ tb) (d : decode cc pc = .ok (.putfield idx, 3)) (kk : VJ G (zI M (45 + 7 * i) 12 z) (pc + 3) lo st) : VJ G M pc lo (.int (iI z) :: .ref (zad G (45 + 7 * i)) :: st) := z_putI C (k := (45 + 7 * i)) (ci := 4) (slot := 12) (x := 0) (T := TX_B) (ty0 := ty_B) (ty := .int) (by rw [hS]; show 45 + 7 * i < 129; omega) (by rw [hS]; exact (shB0 i)) (by rw [hS]; show (dsX (45 + 7 * i))[12]? = some (0, 0); rw [dsB]; rfl) rfl lay_B tyok_B nm_B (by decide) rfl (by decide +kernel) rfl rfl hl d kk
theorem gM_M_grade {G : zG} {cc : ByteArray} {own : String} {ret : Option FieldType} {nL fr lc : Nat} (C : zC G cc own ret nL fr lc) {M : zM} {lo : List (Option Value)} {st : List Value} {pc : Nat} (hS : G.1 = sM) {idx : Nat} (hl : Cond.fieldLink own idx "OldBeamsModel" "grade" "[I" ∈ tb) (d : decode cc pc = .ok (.getfield idx, 3)) (kk : VJ G M (pc + 3) lo (.ref (zad G (1)) :: st)) : VJ G M pc lo (.ref (zad G 0) :: st) := z_get C (k := 0) (ci := 5) (slot := 0) (fd := (6, 1)) (T := TX_M) (by rw [hS]; decide) (by rw [hS]; exact rfl) (by rw [hS]; exact rfl) rfl lay_M (by decide) hl d kk
theorem gM_M_rot {G : zG} {cc : ByteArray} {own : String} {ret : Option FieldType} {nL fr lc : Nat} (C : zC G cc own ret nL fr lc) {M : zM} {lo : List (Option Value)} {st : List Value} {pc : Nat} (hS : G.1 = sM) {idx : Nat} (hl : Cond.fieldLink own idx "OldBeamsModel" "rot" "[I" ∈ tb) (d : decode cc pc = .ok (.getfield idx, 3)) (kk : VJ G M (pc + 3) lo (.ref (zad G (2)) :: st)) : VJ G M pc lo (.ref (zad G 0) :: st) := z_get C (k := 0) (ci := 5) (slot := 1) (fd := (6, 2)) (T := TX_M) (by rw [hS]; decide) (by rw [hS]; exact rfl) (by rw [hS]; exact rfl) rfl lay_M (by decide) hl d kk
theorem gM_M_beams {G : zG} {cc : ByteArray} {own : String} {ret : Option FieldType} {nL fr lc : Nat} (C : zC G cc own ret nL fr lc) {M : zM} {lo : List (Option Value)} {st : List Value} {pc : Nat} (hS : G.1 = sM) {idx : Nat} (hl : Cond.fieldLink own idx "OldBeamsModel" "beams" "I" ∈ tb) (d : decode cc pc = .ok (.getfield idx, 3)) (kk : VJ G M (pc + 3) lo (.int (iI (M.1 0 2)) :: st)) : VJ G M pc lo (.ref (zad G 0) :: st) := z_get C (k := 0) (ci := 5) (slot := 2) (fd := (0, 0)) (T := TX_M) (by rw [hS]; decide) (by rw [hS]; exact rfl) (by rw [hS]; exact rfl) rfl lay_M (by decide) hl d kk
theorem pM_M_beams {G : zG} {cc : ByteArray} {own : String} {ret : Option FieldType} {nL fr lc : Nat} (C : zC G cc own ret nL fr lc) {M : zM} {lo : List (Option Value)} {st : List Value} {pc : Nat} (hS : G.1 = sM) {idx : Nat} {z : Int} (hl : Cond.fieldLink own idx "OldBeamsModel" "beams" "I" ∈ tb) (d : decode cc pc = .ok (.putfield idx, 3)) (kk : VJ G (zI M 0 2 z) (pc + 3) lo st) : VJ G M pc lo (.int (iI z) :: .ref (zad G 0) :: st) := z_putI C (k := 0) (ci := 5) (slot := 2) (x := 0) (T := TX_M) (ty0 := ty_M) (ty := .int) (by rw [hS]; decide) (by rw [hS]; exact rfl) (by rw [hS]; exact rfl) rfl lay_M tyok_M nm_M (by decide) rfl (by decide +kernel) rfl rfl hl d kk
theorem gM_M_kind {G : zG} {cc : ByteArray} {own : String} {ret : Option FieldType} {nL fr lc : Nat} (C : zC G cc own ret nL fr lc) {M : zM} {lo : List (Option Value)} {st : List Value} {pc : Nat} (hS : G.1 = sM) {idx : Nat} (hl : Cond.fieldLink own idx "OldBeamsModel" "kind" "[I" ∈ tb) (d : decode cc pc = .ok (.getfield idx, 3)) (kk : VJ G M (pc + 3) lo (.ref (zad G (3)) :: st)) : VJ G M pc lo (.ref (zad G 0) :: st) := z_get C (k := 0) (ci := 5) (slot := 3) (fd := (6, 3)) (T := TX_M) (by rw [hS]; decide) (by rw [hS]; exact rfl) (by rw [hS]; exact rfl) rfl lay_M (by decide) hl d kk
theorem gM_M_length {G : zG} {cc : ByteArray} {own : String} {ret : Option FieldType} {nL fr lc : Nat} (C : zC G cc own ret nL fr lc) {M : zM} {lo : List (Option Value)} {st : List Value} {pc : Nat} (hS : G.1 = sM) {idx : Nat} (hl : Cond.fieldLink own idx "OldBeamsModel" "length" "[I" ∈ tb) (d : decode cc pc = .ok (.getfield idx, 3)) (kk : VJ G M (pc + 3) lo (.ref (zad G (4)) :: st)) : VJ G M pc lo (.ref (zad G 0) :: st) := z_get C (k := 0) (ci := 5) (slot := 4) (fd := (6, 4)) (T := TX_M) (by rw [hS]; decide) (by rw [hS]; exact rfl) (by rw [hS]; exact rfl) rfl lay_M (by decide) hl d kk
theorem gM_M_width {G : zG} {cc : ByteArray} {own : String} {ret : Option FieldType} {nL fr lc : Nat} (C : zC G cc own ret nL fr lc) {M : zM} {lo : List (Option Value)} {st : List Value} {pc : Nat} (hS : G.1 = sM) {idx : Nat} (hl : Cond.fieldLink own idx "OldBeamsModel" "width" "[I" ∈ tb) (d : decode cc pc = .ok (.getfield idx, 3)) (kk : VJ G M (pc + 3) lo (.ref (zad G (5)) :: st)) : VJ G M pc lo (.ref (zad G 0) :: st) := z_get C (k := 0) (ci := 5) (slot := 5) (fd := (6, 5)) (T := TX_M) (by rw [hS]; decide) (by rw [hS]; exact rfl) (by rw [hS]; exact rfl) rfl lay_M (by decide) hl d kk
theorem gM_M_height {G : zG} {cc : ByteArray} {own : String} {ret : Option FieldType} {nL fr lc : Nat} (C : zC G cc own ret nL fr lc) {M : zM} {lo : List (Option Value)} {st : List Value} {pc : Nat} (hS : G.1 = sM) {idx : Nat} (hl : Cond.fieldLink own idx "OldBeamsModel" "height" "[I" ∈ tb) (d : decode cc pc = .ok (.getfield idx, 3)) (kk : VJ G M (pc + 3) lo (.ref (zad G (6)) :: st)) : VJ G M pc lo (.ref (zad G 0) :: st) := z_get C (k := 0) (ci := 5) (slot := 6) (fd := (6, 6)) (T := TX_M) (by rw [hS]; decide) (by rw [hS]; exact rfl) (by rw [hS]; exact rfl) rfl lay_M (by decide) hl d kk
theorem gM_M_isWet {G : zG} {cc : ByteArray} {own : String} {ret : Option FieldType} {nL fr lc : Nat} (C : zC G cc own ret nL fr lc) {M : zM} {lo : List (Option Value)} {st : List Value} {pc : Nat} (hS : G.1 = sM) {idx : Nat} (hl : Cond.fieldLink own idx "OldBeamsModel" "isWet" "[Z" ∈ tb) (d : decode cc pc = .ok (.getfield idx, 3)) (kk : VJ G M (pc + 3) lo (.ref (zad G (7)) :: st)) : VJ G M pc lo (.ref (zad G 0) :: st) := z_get C (k := 0) (ci := 5) (slot := 7) (fd := (6, 7)) (T := TX_M) (by rw [hS]; decide) (by rw [hS]; exact rfl) (by rw [hS]; exact rfl) rfl lay_M (by decide) hl d kk
theorem gM_M_hasFallen {G : zG} {cc : ByteArray} {own : String} {ret : Option FieldType} {nL fr lc : Nat} (C : zC G cc own ret nL fr lc) {M : zM} {lo : List (Option Value)} {st : List Value} {pc : Nat} (hS : G.1 = sM) {idx : Nat} (hl : Cond.fieldLink own idx "OldBeamsModel" "hasFallen" "[Z" ∈ tb) (d : decode cc pc = .ok (.getfield idx, 3)) (kk : VJ G M (pc + 3) lo (.ref (zad G (8)) :: st)) : VJ G M pc lo (.ref (zad G 0) :: st) := z_get C (k := 0) (ci := 5) (slot := 8) (fd := (6, 8)) (T := TX_M) (by rw [hS]; decide) (by rw [hS]; exact rfl) (by rw [hS]; exact rfl) rfl lay_M (by decide) hl d kk
theorem gM_M_seatAt {G : zG} {cc : ByteArray} {own : String} {ret : Option FieldType} {nL fr lc : Nat} (C : zC G cc own ret nL fr lc) {M : zM} {lo : List (Option Value)} {st : List Value} {pc : Nat} (hS : G.1 = sM) {idx : Nat} (hl : Cond.fieldLink own idx "OldBeamsModel" "seatAt" "[I" ∈ tb) (d : decode cc pc = .ok (.getfield idx, 3)) (kk : VJ G M (pc + 3) lo (.ref (zad G (9)) :: st)) : VJ G M pc lo (.ref (zad G 0) :: st) := z_get C (k := 0) (ci := 5) (slot := 9) (fd := (6, 9)) (T := TX_M) (by rw [hS]; decide) (by rw [hS]; exact rfl) (by rw [hS]; exact rfl) rfl lay_M (by decide) hl d kk
theorem gM_M_seatOn {G : zG} {cc : ByteArray} {own : String} {ret : Option FieldType} {nL fr lc : Nat} (C : zC G cc own ret nL fr lc) {M : zM} {lo : List (Option Value)} {st : List Value} {pc : Nat} (hS : G.1 = sM) {idx : Nat} (hl : Cond.fieldLink own idx "OldBeamsModel" "seatOn" "[I" ∈ tb) (d : decode cc pc = .ok (.getfield idx, 3)) (kk : VJ G M (pc + 3) lo (.ref (zad G (10)) :: st)) : VJ G M pc lo (.ref (zad G 0) :: st) := z_get C (k := 0) (ci := 5) (slot := 10) (fd := (6, 10)) (T := TX_M) (by rw [hS]; decide) (by rw [hS]; exact rfl) (by rw [hS]; exact rfl) rfl lay_M (by decide) hl d kk
theorem gM_M_seatWhere {G : zG} {cc : ByteArray} {own : String} {ret : Option FieldType} {nL fr lc : Nat} (C : zC G cc own ret nL fr lc) {M : zM} {lo : List (Option Value)} {st : List Value} {pc : Nat} (hS : G.1 = sM) {idx : Nat} (hl : Cond.fieldLink own idx "OldBeamsModel" "seatWhere" "[I" ∈ tb) (d : decode cc pc = .ok (.getfield idx, 3)) (kk : VJ G M (pc + 3) lo (.ref (zad G (11)) :: st)) : VJ G M pc lo (.ref (zad G 0) :: st) := z_get C (k := 0) (ci := 5) (slot := 11) (fd := (6, 11)) (T := TX_M) (by rw [hS]; decide) (by rw [hS]; exact rfl) (by rw [hS]; exact rfl) rfl lay_M (by decide) hl d kk
theorem gM_M_loads {G : zG} {cc : ByteArray} {own : String} {ret : Option FieldType} {nL fr lc : Nat} (C : zC G cc own ret nL fr lc) {M : zM} {lo : List (Option Value)} {st : List Value} {pc : Nat} (hS : G.1 = sM) {idx : Nat} (hl : Cond.fieldLink own idx "OldBeamsModel" "loads" "I" ∈ tb) (d : decode cc pc = .ok (.getfield idx, 3)) (kk : VJ G M (pc + 3) lo (.int (iI (M.1 0 12)) :: st)) : VJ G M pc lo (.ref (zad G 0) :: st) := z_get C (k := 0) (ci := 5) (slot := 12) (fd := (0, 0)) (T := TX_M) (by rw [hS]; decide) (by rw [hS]; exact rfl) (by rw [hS]; exact rfl) rfl lay_M (by decide) hl d kk
theorem pM_M_loads {G : zG} {cc : ByteArray} {own : String} {ret : Option FieldType} {nL fr lc : Nat} (C : zC G cc own ret nL fr lc) {M : zM} {lo : List (Option Value)} {st : List Value} {pc : Nat} (hS : G.1 = sM) {idx : Nat} {z : Int} (hl : Cond.fieldLink own idx "OldBeamsModel" "loads" "I" ∈ tb) (d : decode cc pc = .ok (.putfield idx, 3)) (kk : VJ G (zI M 0 12 z) (pc + 3) lo st) : VJ G M pc lo (.int (iI z) :: .ref (zad G 0) :: st) := z_putI C (k := 0) (ci := 5) (slot := 12) (x := 0) (T := TX_M) (ty0 := ty_M) (ty := .int) (by rw [hS]; decide) (by rw [hS]; exact rfl) (by rw [hS]; exact rfl) rfl lay_M tyok_M nm_M (by decide) rfl (by decide +kernel) rfl rfl hl d kk
theorem gM_M_loadBeam {G : zG} {cc : ByteArray} {own : String} {ret : Option FieldType} {nL fr lc : Nat} (C : zC G cc own ret nL fr lc) {M : zM} {lo : List (Option Value)} {st : List Value} {pc : Nat} (hS : G.1 = sM) {idx : Nat} (hl : Cond.fieldLink own idx "OldBeamsModel" "loadBeam" "[I" ∈ tb) (d : decode cc pc = .ok (.getfield idx, 3)) (kk : VJ G M (pc + 3) lo (.ref (zad G (12)) :: st)) : VJ G M pc lo (.ref (zad G 0) :: st) := z_get C (k := 0) (ci := 5) (slot := 13) (fd := (6, 12)) (T := TX_M) (by rw [hS]; decide) (by rw [hS]; exact rfl) (by rw [hS]; exact rfl) rfl lay_M (by decide) hl d kk
theorem gM_M_loadPlace {G : zG} {cc : ByteArray} {own : String} {ret : Option FieldType} {nL fr lc : Nat} (C : zC G cc own ret nL fr lc) {M : zM} {lo : List (Option Value)} {st : List Value} {pc : Nat} (hS : G.1 = sM) {idx : Nat} (hl : Cond.fieldLink own idx "OldBeamsModel" "loadPlace" "[I" ∈ tb) (d : decode cc pc = .ok (.getfield idx, 3)) (kk : VJ G M (pc + 3) lo (.ref (zad G (13)) :: st)) : VJ G M pc lo (.ref (zad G 0) :: st) := z_get C (k := 0) (ci := 5) (slot := 14) (fd := (6, 13)) (T := TX_M) (by rw [hS]; decide) (by rw [hS]; exact rfl) (by rw [hS]; exact rfl) rfl lay_M (by decide) hl d kk
theorem gM_M_loadWeight {G : zG} {cc : ByteArray} {own : String} {ret : Option FieldType} {nL fr lc : Nat} (C : zC G cc own ret nL fr lc) {M : zM} {lo : List (Option Value)} {st : List Value} {pc : Nat} (hS : G.1 = sM) {idx : Nat} (hl : Cond.fieldLink own idx "OldBeamsModel" "loadWeight" "[I" ∈ tb) (d : decode cc pc = .ok (.getfield idx, 3)) (kk : VJ G M (pc + 3) lo (.ref (zad G (14)) :: st)) : VJ G M pc lo (.ref (zad G 0) :: st) := z_get C (k := 0) (ci := 5) (slot := 15) (fd := (6, 14)) (T := TX_M) (by rw [hS]; decide) (by rw [hS]; exact rfl) (by rw [hS]; exact rfl) rfl lay_M (by decide) hl d kk
theorem gM_M_isOff {G : zG} {cc : ByteArray} {own : String} {ret : Option FieldType} {nL fr lc : Nat} (C : zC G cc own ret nL fr lc) {M : zM} {lo : List (Option Value)} {st : List Value} {pc : Nat} (hS : G.1 = sM) {idx : Nat} (hl : Cond.fieldLink own idx "OldBeamsModel" "isOff" "[Z" ∈ tb) (d : decode cc pc = .ok (.getfield idx, 3)) (kk : VJ G M (pc + 3) lo (.ref (zad G (15)) :: st)) : VJ G M pc lo (.ref (zad G 0) :: st) := z_get C (k := 0) (ci := 5) (slot := 16) (fd := (6, 15)) (T := TX_M) (by rw [hS]; decide) (by rw [hS]; exact rfl) (by rw [hS]; exact rfl) rfl lay_M (by decide) hl d kk
theorem gM_M_props {G : zG} {cc : ByteArray} {own : String} {ret : Option FieldType} {nL fr lc : Nat} (C : zC G cc own ret nL fr lc) {M : zM} {lo : List (Option Value)} {st : List Value} {pc : Nat} (hS : G.1 = sM) {idx : Nat} (hl : Cond.fieldLink own idx "OldBeamsModel" "props" "I" ∈ tb) (d : decode cc pc = .ok (.getfield idx, 3)) (kk : VJ G M (pc + 3) lo (.int (iI (M.1 0 17)) :: st)) : VJ G M pc lo (.ref (zad G 0) :: st) := z_get C (k := 0) (ci := 5) (slot := 17) (fd := (0, 0)) (T := TX_M) (by rw [hS]; decide) (by rw [hS]; exact rfl) (by rw [hS]; exact rfl) rfl lay_M (by decide) hl d kk
theorem pM_M_props {G : zG} {cc : ByteArray} {own : String} {ret : Option FieldType} {nL fr lc : Nat} (C : zC G cc own ret nL fr lc) {M : zM} {lo : List (Option Value)} {st : List Value} {pc : Nat} (hS : G.1 = sM) {idx : Nat} {z : Int} (hl : Cond.fieldLink own idx "OldBeamsModel" "props" "I" ∈ tb) (d : decode cc pc = .ok (.putfield idx, 3)) (kk : VJ G (zI M 0 17 z) (pc + 3) lo st) : VJ G M pc lo (.int (iI z) :: .ref (zad G 0) :: st) := z_putI C (k := 0) (ci := 5) (slot := 17) (x := 0) (T := TX_M) (ty0 := ty_M) (ty := .int) (by rw [hS]; decide) (by rw [hS]; exact rfl) (by rw [hS]; exact rfl) rfl lay_M tyok_M nm_M (by decide) rfl (by decide +kernel) rfl rfl hl d kk
theorem gM_M_propBeam {G : zG} {cc : ByteArray} {own : String} {ret : Option FieldType} {nL fr lc : Nat} (C : zC G cc own ret nL fr lc) {M : zM} {lo : List (Option Value)} {st : List Value} {pc : Nat} (hS : G.1 = sM) {idx : Nat} (hl : Cond.fieldLink own idx "OldBeamsModel" "propBeam" "[I" ∈ tb) (d : decode cc pc = .ok (.getfield idx, 3)) (kk : VJ G M (pc + 3) lo (.ref (zad G (16)) :: st)) : VJ G M pc lo (.ref (zad G 0) :: st) := z_get C (k := 0) (ci := 5) (slot := 18) (fd := (6, 16)) (T := TX_M) (by rw [hS]; decide) (by rw [hS]; exact rfl) (by rw [hS]; exact rfl) rfl lay_M (by decide) hl d kk
theorem gM_M_propPlace {G : zG} {cc : ByteArray} {own : String} {ret : Option FieldType} {nL fr lc : Nat} (C : zC G cc own ret nL fr lc) {M : zM} {lo : List (Option Value)} {st : List Value} {pc : Nat} (hS : G.1 = sM) {idx : Nat} (hl : Cond.fieldLink own idx "OldBeamsModel" "propPlace" "[I" ∈ tb) (d : decode cc pc = .ok (.getfield idx, 3)) (kk : VJ G M (pc + 3) lo (.ref (zad G (17)) :: st)) : VJ G M pc lo (.ref (zad G 0) :: st) := z_get C (k := 0) (ci := 5) (slot := 19) (fd := (6, 17)) (T := TX_M) (by rw [hS]; decide) (by rw [hS]; exact rfl) (by rw [hS]; exact rfl) rfl lay_M (by decide) hl d kk
theorem gM_M_propPush {G : zG} {cc : ByteArray} {own : String} {ret : Option FieldType} {nL fr lc : Nat} (C : zC G cc own ret nL fr lc) {M : zM} {lo : List (Option Value)} {st : List Value} {pc : Nat} (hS : G.1 = sM) {idx : Nat} (hl : Cond.fieldLink own idx "OldBeamsModel" "propPush" "[I" ∈ tb) (d : decode cc pc = .ok (.getfield idx, 3)) (kk : VJ G M (pc + 3) lo (.ref (zad G (18)) :: st)) : VJ G M pc lo (.ref (zad G 0) :: st) := z_get C (k := 0) (ci := 5) (slot := 20) (fd := (6, 18)) (T := TX_M) (by rw [hS]; decide) (by rw [hS]; exact rfl) (by rw [hS]; exact rfl) rfl lay_M (by decide) hl d kk
theorem gM_M_isSet {G : zG} {cc : ByteArray} {own : String} {ret : Option FieldType} {nL fr lc : Nat} (C : zC G cc own ret nL fr lc) {M : zM} {lo : List (Option Value)} {st : List Value} {pc : Nat} (hS : G.1 = sM) {idx : Nat} (hl : Cond.fieldLink own idx "OldBeamsModel" "isSet" "[Z" ∈ tb) (d : decode cc pc = .ok (.getfield idx, 3)) (kk : VJ G M (pc + 3) lo (.ref (zad G (19)) :: st)) : VJ G M pc lo (.ref (zad G 0) :: st) := z_get C (k := 0) (ci := 5) (slot := 21) (fd := (6, 19)) (T := TX_M) (by rw [hS]; decide) (by rw [hS]; exact rfl) (by rw [hS]; exact rfl) rfl lay_M (by decide) hl d kk
theorem gM_M_tryFallen {G : zG} {cc : ByteArray} {own : String} {ret : Option FieldType} {nL fr lc : Nat} (C : zC G cc own ret nL fr lc) {M : zM} {lo : List (Option Value)} {st : List Value} {pc : Nat} (hS : G.1 = sM) {idx : Nat} (hl : Cond.fieldLink own idx "OldBeamsModel" "tryFallen" "[Z" ∈ tb) (d : decode cc pc = .ok (.getfield idx, 3)) (kk : VJ G M (pc + 3) lo (.ref (zad G (20)) :: st)) : VJ G M pc lo (.ref (zad G 0) :: st) := z_get C (k := 0) (ci := 5) (slot := 22) (fd := (6, 20)) (T := TX_M) (by rw [hS]; decide) (by rw [hS]; exact rfl) (by rw [hS]; exact rfl) rfl lay_M (by decide) hl d kk
theorem gM_M_trySet {G : zG} {cc : ByteArray} {own : String} {ret : Option FieldType} {nL fr lc : Nat} (C : zC G cc own ret nL fr lc) {M : zM} {lo : List (Option Value)} {st : List Value} {pc : Nat} (hS : G.1 = sM) {idx : Nat} (hl : Cond.fieldLink own idx "OldBeamsModel" "trySet" "[Z" ∈ tb) (d : decode cc pc = .ok (.getfield idx, 3)) (kk : VJ G M (pc + 3) lo (.ref (zad G (21)) :: st)) : VJ G M pc lo (.ref (zad G 0) :: st) := z_get C (k := 0) (ci := 5) (slot := 23) (fd := (6, 21)) (T := TX_M) (by rw [hS]; decide) (by rw [hS]; exact rfl) (by rw [hS]; exact rfl) rfl lay_M (by decide) hl d kk
theorem gM_M_isDown {G : zG} {cc : ByteArray} {own : String} {ret : Option FieldType} {nL fr lc : Nat} (C : zC G cc own ret nL fr lc) {M : zM} {lo : List (Option Value)} {st : List Value} {pc : Nat} (hS : G.1 = sM) {idx : Nat} (hl : Cond.fieldLink own idx "OldBeamsModel" "isDown" "[Z" ∈ tb) (d : decode cc pc = .ok (.getfield idx, 3)) (kk : VJ G M (pc + 3) lo (.ref (zad G (22)) :: st)) : VJ G M pc lo (.ref (zad G 0) :: st) := z_get C (k := 0) (ci := 5) (slot := 24) (fd := (6, 22)) (T := TX_M) (by rw [hS]; decide) (by rw [hS]; exact rfl) (by rw [hS]; exact rfl) rfl lay_M (by decide) hl d kk
theorem gM_M_forces {G : zG} {cc : ByteArray} {own : String} {ret : Option FieldType} {nL fr lc : Nat} (C : zC G cc own ret nL fr lc) {M : zM} {lo : List (Option Value)} {st : List Value} {pc : Nat} (hS : G.1 = sM) {idx : Nat} (hl : Cond.fieldLink own idx "OldBeamsModel" "forces" "[J" ∈ tb) (d : decode cc pc = .ok (.getfield idx, 3)) (kk : VJ G M (pc + 3) lo (.ref (zad G (23)) :: st)) : VJ G M pc lo (.ref (zad G 0) :: st) := z_get C (k := 0) (ci := 5) (slot := 25) (fd := (6, 23)) (T := TX_M) (by rw [hS]; decide) (by rw [hS]; exact rfl) (by rw [hS]; exact rfl) rfl lay_M (by decide) hl d kk
theorem gM_M_push {G : zG} {cc : ByteArray} {own : String} {ret : Option FieldType} {nL fr lc : Nat} (C : zC G cc own ret nL fr lc) {M : zM} {lo : List (Option Value)} {st : List Value} {pc : Nat} (hS : G.1 = sM) {idx : Nat} (hl : Cond.fieldLink own idx "OldBeamsModel" "push" "[J" ∈ tb) (d : decode cc pc = .ok (.getfield idx, 3)) (kk : VJ G M (pc + 3) lo (.ref (zad G (24)) :: st)) : VJ G M pc lo (.ref (zad G 0) :: st) := z_get C (k := 0) (ci := 5) (slot := 26) (fd := (6, 24)) (T := TX_M) (by rw [hS]; decide) (by rw [hS]; exact rfl) (by rw [hS]; exact rfl) rfl lay_M (by decide) hl d kk
theorem gM_M_great {G : zG} {cc : ByteArray} {own : String} {ret : Option FieldType} {nL fr lc : Nat} (C : zC G cc own ret nL fr lc) {M : zM} {lo : List (Option Value)} {st : List Value} {pc : Nat} (hS : G.1 = sM) {idx : Nat} (hl : Cond.fieldLink own idx "OldBeamsModel" "great" "[J" ∈ tb) (d : decode cc pc = .ok (.getfield idx, 3)) (kk : VJ G M (pc + 3) lo (.ref (zad G (25)) :: st)) : VJ G M pc lo (.ref (zad G 0) :: st) := z_get C (k := 0) (ci := 5) (slot := 27) (fd := (6, 25)) (T := TX_M) (by rw [hS]; decide) (by rw [hS]; exact rfl) (by rw [hS]; exact rfl) rfl lay_M (by decide) hl d kk
theorem gM_M_greatPlace {G : zG} {cc : ByteArray} {own : String} {ret : Option FieldType} {nL fr lc : Nat} (C : zC G cc own ret nL fr lc) {M : zM} {lo : List (Option Value)} {st : List Value} {pc : Nat} (hS : G.1 = sM) {idx : Nat} (hl : Cond.fieldLink own idx "OldBeamsModel" "greatPlace" "[I" ∈ tb) (d : decode cc pc = .ok (.getfield idx, 3)) (kk : VJ G M (pc + 3) lo (.ref (zad G (26)) :: st)) : VJ G M pc lo (.ref (zad G 0) :: st) := z_get C (k := 0) (ci := 5) (slot := 28) (fd := (6, 26)) (T := TX_M) (by rw [hS]; decide) (by rw [hS]; exact rfl) (by rw [hS]; exact rfl) rfl lay_M (by decide) hl d kk
theorem gM_M_weight {G : zG} {cc : ByteArray} {own : String} {ret : Option FieldType} {nL fr lc : Nat} (C : zC G cc own ret nL fr lc) {M : zM} {lo : List (Option Value)} {st : List Value} {pc : Nat} (hS : G.1 = sM) {idx : Nat} (hl : Cond.fieldLink own idx "OldBeamsModel" "weight" "[I" ∈ tb) (d : decode cc pc = .ok (.getfield idx, 3)) (kk : VJ G M (pc + 3) lo (.ref (zad G (27)) :: st)) : VJ G M pc lo (.ref (zad G 0) :: st) := z_get C (k := 0) (ci := 5) (slot := 29) (fd := (6, 27)) (T := TX_M) (by rw [hS]; decide) (by rw [hS]; exact rfl) (by rw [hS]; exact rfl) rfl lay_M (by decide) hl d kk
theorem gM_M_often {G : zG} {cc : ByteArray} {own : String} {ret : Option FieldType} {nL fr lc : Nat} (C : zC G cc own ret nL fr lc) {M : zM} {lo : List (Option Value)} {st : List Value} {pc : Nat} (hS : G.1 = sM) {idx : Nat} (hl : Cond.fieldLink own idx "OldBeamsModel" "often" "[I" ∈ tb) (d : decode cc pc = .ok (.getfield idx, 3)) (kk : VJ G M (pc + 3) lo (.ref (zad G (28)) :: st)) : VJ G M pc lo (.ref (zad G 0) :: st) := z_get C (k := 0) (ci := 5) (slot := 30) (fd := (6, 28)) (T := TX_M) (by rw [hS]; decide) (by rw [hS]; exact rfl) (by rw [hS]; exact rfl) rfl lay_M (by decide) hl d kk
theorem gM_M_looks {G : zG} {cc : ByteArray} {own : String} {ret : Option FieldType} {nL fr lc : Nat} (C : zC G cc own ret nL fr lc) {M : zM} {lo : List (Option Value)} {st : List Value} {pc : Nat} (hS : G.1 = sM) {idx : Nat} (hl : Cond.fieldLink own idx "OldBeamsModel" "looks" "I" ∈ tb) (d : decode cc pc = .ok (.getfield idx, 3)) (kk : VJ G M (pc + 3) lo (.int (iI (M.1 0 31)) :: st)) : VJ G M pc lo (.ref (zad G 0) :: st) := z_get C (k := 0) (ci := 5) (slot := 31) (fd := (0, 0)) (T := TX_M) (by rw [hS]; decide) (by rw [hS]; exact rfl) (by rw [hS]; exact rfl) rfl lay_M (by decide) hl d kk
theorem pM_M_looks {G : zG} {cc : ByteArray} {own : String} {ret : Option FieldType} {nL fr lc : Nat} (C : zC G cc own ret nL fr lc) {M : zM} {lo : List (Option Value)} {st : List Value} {pc : Nat} (hS : G.1 = sM) {idx : Nat} {z : Int} (hl : Cond.fieldLink own idx "OldBeamsModel" "looks" "I" ∈ tb) (d : decode cc pc = .ok (.putfield idx, 3)) (kk : VJ G (zI M 0 31 z) (pc + 3) lo st) : VJ G M pc lo (.int (iI z) :: .ref (zad G 0) :: st) := z_putI C (k := 0) (ci := 5) (slot := 31) (x := 0) (T := TX_M) (ty0 := ty_M) (ty := .int) (by rw [hS]; decide) (by rw [hS]; exact rfl) (by rw [hS]; exact rfl) rfl lay_M tyok_M nm_M (by decide) rfl (by decide +kernel) rfl rfl hl d kk
theorem gM_M_lookBeam {G : zG} {cc : ByteArray} {own : String} {ret : Option FieldType} {nL fr lc : Nat} (C : zC G cc own ret nL fr lc) {M : zM} {lo : List (Option Value)} {st : List Value} {pc : Nat} (hS : G.1 = sM) {idx : Nat} (hl : Cond.fieldLink own idx "OldBeamsModel" "lookBeam" "[I" ∈ tb) (d : decode cc pc = .ok (.getfield idx, 3)) (kk : VJ G M (pc + 3) lo (.ref (zad G (29)) :: st)) : VJ G M pc lo (.ref (zad G 0) :: st) := z_get C (k := 0) (ci := 5) (slot := 32) (fd := (6, 29)) (T := TX_M) (by rw [hS]; decide) (by rw [hS]; exact rfl) (by rw [hS]; exact rfl) rfl lay_M (by decide) hl d kk
theorem gM_M_lookTool {G : zG} {cc : ByteArray} {own : String} {ret : Option FieldType} {nL fr lc : Nat} (C : zC G cc own ret nL fr lc) {M : zM} {lo : List (Option Value)} {st : List Value} {pc : Nat} (hS : G.1 = sM) {idx : Nat} (hl : Cond.fieldLink own idx "OldBeamsModel" "lookTool" "[I" ∈ tb) (d : decode cc pc = .ok (.getfield idx, 3)) (kk : VJ G M (pc + 3) lo (.ref (zad G (30)) :: st)) : VJ G M pc lo (.ref (zad G 0) :: st) := z_get C (k := 0) (ci := 5) (slot := 33) (fd := (6, 30)) (T := TX_M) (by rw [hS]; decide) (by rw [hS]; exact rfl) (by rw [hS]; exact rfl) rfl lay_M (by decide) hl d kk
theorem gM_M_lookOutcome {G : zG} {cc : ByteArray} {own : String} {ret : Option FieldType} {nL fr lc : Nat} (C : zC G cc own ret nL fr lc) {M : zM} {lo : List (Option Value)} {st : List Value} {pc : Nat} (hS : G.1 = sM) {idx : Nat} (hl : Cond.fieldLink own idx "OldBeamsModel" "lookOutcome" "[I" ∈ tb) (d : decode cc pc = .ok (.getfield idx, 3)) (kk : VJ G M (pc + 3) lo (.ref (zad G (31)) :: st)) : VJ G M pc lo (.ref (zad G 0) :: st) := z_get C (k := 0) (ci := 5) (slot := 34) (fd := (6, 31)) (T := TX_M) (by rw [hS]; decide) (by rw [hS]; exact rfl) (by rw [hS]; exact rfl) rfl lay_M (by decide) hl d kk
theorem gM_M_lookYear {G : zG} {cc : ByteArray} {own : String} {ret : Option FieldType} {nL fr lc : Nat} (C : zC G cc own ret nL fr lc) {M : zM} {lo : List (Option Value)} {st : List Value} {pc : Nat} (hS : G.1 = sM) {idx : Nat} (hl : Cond.fieldLink own idx "OldBeamsModel" "lookYear" "[I" ∈ tb) (d : decode cc pc = .ok (.getfield idx, 3)) (kk : VJ G M (pc + 3) lo (.ref (zad G (32)) :: st)) : VJ G M pc lo (.ref (zad G 0) :: st) := z_get C (k := 0) (ci := 5) (slot := 35) (fd := (6, 32)) (T := TX_M) (by rw [hS]; decide) (by rw [hS]; exact rfl) (by rw [hS]; exact rfl) rfl lay_M (by decide) hl d kk
theorem gM_M_odds {G : zG} {cc : ByteArray} {own : String} {ret : Option FieldType} {nL fr lc : Nat} (C : zC G cc own ret nL fr lc) {M : zM} {lo : List (Option Value)} {st : List Value} {pc : Nat} (hS : G.1 = sM) {idx : Nat} (hl : Cond.fieldLink own idx "OldBeamsModel" "odds" "[J" ∈ tb) (d : decode cc pc = .ok (.getfield idx, 3)) (kk : VJ G M (pc + 3) lo (.ref (zad G (33)) :: st)) : VJ G M pc lo (.ref (zad G 0) :: st) := z_get C (k := 0) (ci := 5) (slot := 36) (fd := (6, 33)) (T := TX_M) (by rw [hS]; decide) (by rw [hS]; exact rfl) (by rw [hS]; exact rfl) rfl lay_M (by decide) hl d kk
theorem gM_M_next {G : zG} {cc : ByteArray} {own : String} {ret : Option FieldType} {nL fr lc : Nat} (C : zC G cc own ret nL fr lc) {M : zM} {lo : List (Option Value)} {st : List Value} {pc : Nat} (hS : G.1 = sM) {idx : Nat} (hl : Cond.fieldLink own idx "OldBeamsModel" "next" "[J" ∈ tb) (d : decode cc pc = .ok (.getfield idx, 3)) (kk : VJ G M (pc + 3) lo (.ref (zad G (34)) :: st)) : VJ G M pc lo (.ref (zad G 0) :: st) := z_get C (k := 0) (ci := 5) (slot := 37) (fd := (6, 34)) (T := TX_M) (by rw [hS]; decide) (by rw [hS]; exact rfl) (by rw [hS]; exact rfl) rfl lay_M (by decide) hl d kk
theorem gM_M_firstQuarrel {G : zG} {cc : ByteArray} {own : String} {ret : Option FieldType} {nL fr lc : Nat} (C : zC G cc own ret nL fr lc) {M : zM} {lo : List (Option Value)} {st : List Value} {pc : Nat} (hS : G.1 = sM) {idx : Nat} (hl : Cond.fieldLink own idx "OldBeamsModel" "firstQuarrel" "I" ∈ tb) (d : decode cc pc = .ok (.getfield idx, 3)) (kk : VJ G M (pc + 3) lo (.int (iI (M.1 0 38)) :: st)) : VJ G M pc lo (.ref (zad G 0) :: st) := z_get C (k := 0) (ci := 5) (slot := 38) (fd := (0, 0)) (T := TX_M) (by rw [hS]; decide) (by rw [hS]; exact rfl) (by rw [hS]; exact rfl) rfl lay_M (by decide) hl d kk
theorem pM_M_firstQuarrel {G : zG} {cc : ByteArray} {own : String} {ret : Option FieldType} {nL fr lc : Nat} (C : zC G cc own ret nL fr lc) {M : zM} {lo : List (Option Value)} {st : List Value} {pc : Nat} (hS : G.1 = sM) {idx : Nat} {z : Int} (hl : Cond.fieldLink own idx "OldBeamsModel" "firstQuarrel" "I" ∈ tb) (d : decode cc pc = .ok (.putfield idx, 3)) (kk : VJ G (zI M 0 38 z) (pc + 3) lo st) : VJ G M pc lo (.int (iI z) :: .ref (zad G 0) :: st) := z_putI C (k := 0) (ci := 5) (slot := 38) (x := 0) (T := TX_M) (ty0 := ty_M) (ty := .int) (by rw [hS]; decide) (by rw [hS]; exact rfl) (by rw [hS]; exact rfl) rfl lay_M tyok_M nm_M (by decide) rfl (by decide +kernel) rfl rfl hl d kk
theorem gM_M_holdSum {G : zG} {cc : ByteArray} {own : String} {ret : Option FieldType} {nL fr lc : Nat} (C : zC G cc own ret nL fr lc) {M : zM} {lo : List (Option Value)} {st : List Value} {pc : Nat} (hS : G.1 = sM) {idx : Nat} (hl : Cond.fieldLink own idx "OldBeamsModel" "holdSum" "J" ∈ tb) (d : decode cc pc = .ok (.getfield idx, 3)) (kk : VJ G M (pc + 3) lo (.long (M.2 0 39) :: st)) : VJ G M pc lo (.ref (zad G 0) :: st) := z_get C (k := 0) (ci := 5) (slot := 39) (fd := (2, 0)) (T := TX_M) (by rw [hS]; decide) (by rw [hS]; exact rfl) (by rw [hS]; exact rfl) rfl lay_M (by decide) hl d kk
theorem pM_M_holdSum {G : zG} {cc : ByteArray} {own : String} {ret : Option FieldType} {nL fr lc : Nat} (C : zC G cc own ret nL fr lc) {M : zM} {lo : List (Option Value)} {st : List Value} {pc : Nat} (hS : G.1 = sM) {idx : Nat} {z : Int64} (hl : Cond.fieldLink own idx "OldBeamsModel" "holdSum" "J" ∈ tb) (d : decode cc pc = .ok (.putfield idx, 3)) (kk : VJ G (zJ M 0 39 z) (pc + 3) lo st) : VJ G M pc lo (.long z :: .ref (zad G 0) :: st) := z_putJ C (k := 0) (ci := 5) (slot := 39) (x := 0) (T := TX_M) (ty0 := ty_M) (by rw [hS]; decide) (by rw [hS]; exact rfl) (by rw [hS]; exact rfl) rfl lay_M tyok_M nm_M (by decide) rfl (by decide +kernel) hl d kk
theorem gM_M_allSum {G : zG} {cc : ByteArray} {own : String} {ret : Option FieldType} {nL fr lc : Nat} (C : zC G cc own ret nL fr lc) {M : zM} {lo : List (Option Value)} {st : List Value} {pc : Nat} (hS : G.1 = sM) {idx : Nat} (hl : Cond.fieldLink own idx "OldBeamsModel" "allSum" "J" ∈ tb) (d : decode cc pc = .ok (.getfield idx, 3)) (kk : VJ G M (pc + 3) lo (.long (M.2 0 40) :: st)) : VJ G M pc lo (.ref (zad G 0) :: st) := z_get C (k := 0) (ci := 5) (slot := 40) (fd := (2, 0)) (T := TX_M) (by rw [hS]; decide) (by rw [hS]; exact rfl) (by rw [hS]; exact rfl) rfl lay_M (by decide) hl d kk
theorem pM_M_allSum {G : zG} {cc : ByteArray} {own : String} {ret : Option FieldType} {nL fr lc : Nat} (C : zC G cc own ret nL fr lc) {M : zM} {lo : List (Option Value)} {st : List Value} {pc : Nat} (hS : G.1 = sM) {idx : Nat} {z : Int64} (hl : Cond.fieldLink own idx "OldBeamsModel" "allSum" "J" ∈ tb) (d : decode cc pc = .ok (.putfield idx, 3)) (kk : VJ G (zJ M 0 40 z) (pc + 3) lo st) : VJ G M pc lo (.long z :: .ref (zad G 0) :: st) := z_putJ C (k := 0) (ci := 5) (slot := 40) (x := 0) (T := TX_M) (ty0 := ty_M) (by rw [hS]; decide) (by rw [hS]; exact rfl) (by rw [hS]; exact rfl) rfl lay_M tyok_M nm_M (by decide) rfl (by decide +kernel) hl d kk
theorem gM_M_fallen {G : zG} {cc : ByteArray} {own : String} {ret : Option FieldType} {nL fr lc : Nat} (C : zC G cc own ret nL fr lc) {M : zM} {lo : List (Option Value)} {st : List Value} {pc : Nat} (hS : G.1 = sM) {idx : Nat} (hl : Cond.fieldLink own idx "OldBeamsModel" "fallen" "[I" ∈ tb) (d : decode cc pc = .ok (.getfield idx, 3)) (kk : VJ G M (pc + 3) lo (.ref (zad G (35)) :: st)) : VJ G M pc lo (.ref (zad G 0) :: st) := z_get C (k := 0) (ci := 5) (slot := 41) (fd := (6, 35)) (T := TX_M) (by rw [hS]; decide) (by rw [hS]; exact rfl) (by rw [hS]; exact rfl) rfl lay_M (by decide) hl d kk
theorem gM_M_fallMany {G : zG} {cc : ByteArray} {own : String} {ret : Option FieldType} {nL fr lc : Nat} (C : zC G cc own ret nL fr lc) {M : zM} {lo : List (Option Value)} {st : List Value} {pc : Nat} (hS : G.1 = sM) {idx : Nat} (hl : Cond.fieldLink own idx "OldBeamsModel" "fallMany" "I" ∈ tb) (d : decode cc pc = .ok (.getfield idx, 3)) (kk : VJ G M (pc + 3) lo (.int (iI (M.1 0 42)) :: st)) : VJ G M pc lo (.ref (zad G 0) :: st) := z_get C (k := 0) (ci := 5) (slot := 42) (fd := (0, 0)) (T := TX_M) (by rw [hS]; decide) (by rw [hS]; exact rfl) (by rw [hS]; exact rfl) rfl lay_M (by decide) hl d kk
theorem pM_M_fallMany {G : zG} {cc : ByteArray} {own : String} {ret : Option FieldType} {nL fr lc : Nat} (C : zC G cc own ret nL fr lc) {M : zM} {lo : List (Option Value)} {st : List Value} {pc : Nat} (hS : G.1 = sM) {idx : Nat} {z : Int} (hl : Cond.fieldLink own idx "OldBeamsModel" "fallMany" "I" ∈ tb) (d : decode cc pc = .ok (.putfield idx, 3)) (kk : VJ G (zI M 0 42 z) (pc + 3) lo st) : VJ G M pc lo (.int (iI z) :: .ref (zad G 0) :: st) := z_putI C (k := 0) (ci := 5) (slot := 42) (x := 0) (T := TX_M) (ty0 := ty_M) (ty := .int) (by rw [hS]; decide) (by rw [hS]; exact rfl) (by rw [hS]; exact rfl) rfl lay_M tyok_M nm_M (by decide) rfl (by decide +kernel) rfl rfl hl d kk
theorem gM_M_mend {G : zG} {cc : ByteArray} {own : String} {ret : Option FieldType} {nL fr lc : Nat} (C : zC G cc own ret nL fr lc) {M : zM} {lo : List (Option Value)} {st : List Value} {pc : Nat} (hS : G.1 = sM) {idx : Nat} (hl : Cond.fieldLink own idx "OldBeamsModel" "mend" "I" ∈ tb) (d : decode cc pc = .ok (.getfield idx, 3)) (kk : VJ G M (pc + 3) lo (.int (iI (M.1 0 43)) :: st)) : VJ G M pc lo (.ref (zad G 0) :: st) := z_get C (k := 0) (ci := 5) (slot := 43) (fd := (0, 0)) (T := TX_M) (by rw [hS]; decide) (by rw [hS]; exact rfl) (by rw [hS]; exact rfl) rfl lay_M (by decide) hl d kk
theorem pM_M_mend {G : zG} {cc : ByteArray} {own : String} {ret : Option FieldType} {nL fr lc : Nat} (C : zC G cc own ret nL fr lc) {M : zM} {lo : List (Option Value)} {st : List Value} {pc : Nat} (hS : G.1 = sM) {idx : Nat} {z : Int} (hl : Cond.fieldLink own idx "OldBeamsModel" "mend" "I" ∈ tb) (d : decode cc pc = .ok (.putfield idx, 3)) (kk : VJ G (zI M 0 43 z) (pc + 3) lo st) : VJ G M pc lo (.int (iI z) :: .ref (zad G 0) :: st) := z_putI C (k := 0) (ci := 5) (slot := 43) (x := 0) (T := TX_M) (ty0 := ty_M) (ty := .int) (by rw [hS]; decide) (by rw [hS]; exact rfl) (by rw [hS]; exact rfl) rfl lay_M tyok_M nm_M (by decide) rfl (by decide +kernel) rfl rfl hl d kk
theorem gM_M_loss {G : zG} {cc : ByteArray} {own : String} {ret : Option FieldType} {nL fr lc : Nat} (C : zC G cc own ret nL fr lc) {M : zM} {lo : List (Option Value)} {st : List Value} {pc : Nat} (hS : G.1 = sM) {idx : Nat} (hl : Cond.fieldLink own idx "OldBeamsModel" "loss" "I" ∈ tb) (d : decode cc pc = .ok (.getfield idx, 3)) (kk : VJ G M (pc + 3) lo (.int (iI (M.1 0 44)) :: st)) : VJ G M pc lo (.ref (zad G 0) :: st) := z_get C (k := 0) (ci := 5) (slot := 44) (fd := (0, 0)) (T := TX_M) (by rw [hS]; decide) (by rw [hS]; exact rfl) (by rw [hS]; exact rfl) rfl lay_M (by decide) hl d kk
theorem pM_M_loss {G : zG} {cc : ByteArray} {own : String} {ret : Option FieldType} {nL fr lc : Nat} (C : zC G cc own ret nL fr lc) {M : zM} {lo : List (Option Value)} {st : List Value} {pc : Nat} (hS : G.1 = sM) {idx : Nat} {z : Int} (hl : Cond.fieldLink own idx "OldBeamsModel" "loss" "I" ∈ tb) (d : decode cc pc = .ok (.putfield idx, 3)) (kk : VJ G (zI M 0 44 z) (pc + 3) lo st) : VJ G M pc lo (.int (iI z) :: .ref (zad G 0) :: st) := z_putI C (k := 0) (ci := 5) (slot := 44) (x := 0) (T := TX_M) (ty0 := ty_M) (ty := .int) (by rw [hS]; decide) (by rw [hS]; exact rfl) (by rw [hS]; exact rfl) rfl lay_M tyok_M nm_M (by decide) rfl (by decide +kernel) rfl rfl hl d kk
end
section
theorem inT1 {w : Cond} (h : w ∈ tables_1_1) (g : goodWord w = true) : w ∈ tb := tb_in (List.mem_append_right _ (show w ∈ tables_1 from (List.mem_append_left _ h))) g
theorem inT2 {w : Cond} (h : w ∈ tables_1_2) (g : goodWord w = true) : w ∈ tb := tb_in (List.mem_append_right _ (show w ∈ tables_1 from (List.mem_append_right _ (List.mem_append_left _ h)))) g
theorem inT3 {w : Cond} (h : w ∈ tables_1_3) (g : goodWord w = true) : w ∈ tb := tb_in (List.mem_append_right _ (show w ∈ tables_1 from (List.mem_append_right _ (List.mem_append_right _ (List.mem_append_left _ h))))) g
theorem inT4 {w : Cond} (h : w ∈ tables_1_4) (g : goodWord w = true) : w ∈ tb := tb_in (List.mem_append_right _ (show w ∈ tables_1 from (List.mem_append_right _ (List.mem_append_right _ (List.mem_append_right _ (List.mem_append_left _ h)))))) g
theorem inT5 {w : Cond} (h : w ∈ tables_1_5) (g : goodWord w = true) : w ∈ tb := tb_in (List.mem_append_right _ (show w ∈ tables_1 from (List.mem_append_right _ (List.mem_append_right _ (List.mem_append_right _ (List.mem_append_right _ h)))))) g
theorem k_0 : Cond.initialized "OldBeamsLaw" ∈ tb := inT1 (List.mem_of_getElem? (i := 0) rfl) rfl
theorem k_1 : Cond.initialized "OldBeams" ∈ tb := inT1 (List.mem_of_getElem? (i := 1) rfl) rfl
theorem k_2 : Cond.initialized "OldBeams$Frame" ∈ tb := inT1 (List.mem_of_getElem? (i := 2) rfl) rfl
theorem k_3 : Cond.initialized "OldBeams$Beam" ∈ tb := inT1 (List.mem_of_getElem? (i := 3) rfl) rfl
theorem k_4 : Cond.initialized "OldBeams$Looks" ∈ tb := inT1 (List.mem_of_getElem? (i := 4) rfl) rfl
theorem k_5 : Cond.initialized "OldBeams$Fraction" ∈ tb := inT1 (List.mem_of_getElem? (i := 5) rfl) rfl
theorem k_6 : Cond.initialized "OldBeamsModel" ∈ tb := inT1 (List.mem_of_getElem? (i := 6) rfl) rfl
theorem k_7 : Cond.initialized "java/lang/Integer" ∈ tb := inT1 (List.mem_of_getElem? (i := 7) rfl) rfl
theorem k_8 : Cond.initialized "java/lang/System" ∈ tb := inT1 (List.mem_of_getElem? (i := 8) rfl) rfl
theorem k_9 : Cond.initialized "java/lang/Math" ∈ tb := inT1 (List.mem_of_getElem? (i := 9) rfl) rfl
theorem k_10 : Cond.classLink "OldBeamsLaw" 7 "OldBeams" ∈ tb := inT1 (List.mem_of_getElem? (i := 10) rfl) rfl
theorem k_11 : Cond.instantiable "OldBeams" 7 ∈ tb := inT1 (List.mem_of_getElem? (i := 11) rfl) rfl
theorem k_12 : Cond.methodLink "OldBeamsLaw" 9 ⟨"OldBeams", "<init>", "()V"⟩ ∈ tb := inT1 (List.mem_of_getElem? (i := 12) rfl) rfl
theorem k_13 : Cond.instanceMethod ⟨"OldBeams", "<init>", "()V"⟩ ∈ tb := inT1 (List.mem_of_getElem? (i := 13) rfl) rfl
theorem k_14 : Cond.code ⟨"OldBeams", "<init>", "()V"⟩ prog_1_method_1_code 1 none ∈ tb := inT1 (List.mem_of_getElem? (i := 14) rfl) rfl
theorem k_15 : Cond.methodLink "OldBeams" 3 ⟨"java/lang/Object", "<init>", "()V"⟩ ∈ tb := inT1 (List.mem_of_getElem? (i := 15) rfl) rfl
theorem k_16 : Cond.instanceMethod ⟨"java/lang/Object", "<init>", "()V"⟩ ∈ tb := inT1 (List.mem_of_getElem? (i := 16) rfl) rfl
theorem k_17 : Cond.code ⟨"java/lang/Object", "<init>", "()V"⟩ object_method_1_code 1 none ∈ tb := inT1 (List.mem_of_getElem? (i := 17) rfl) rfl
theorem k_18 : Cond.classLink "OldBeams" 9 "OldBeams$Frame" ∈ tb := inT1 (List.mem_of_getElem? (i := 18) rfl) rfl
theorem k_19 : Cond.instantiable "OldBeams$Frame" 15 ∈ tb := inT1 (List.mem_of_getElem? (i := 19) rfl) rfl
theorem k_20 : Cond.methodLink "OldBeams" 11 ⟨"OldBeams$Frame", "<init>", "()V"⟩ ∈ tb := inT1 (List.mem_of_getElem? (i := 20) rfl) rfl
theorem k_21 : Cond.instanceMethod ⟨"OldBeams$Frame", "<init>", "()V"⟩ ∈ tb := inT1 (List.mem_of_getElem? (i := 21) rfl) rfl
theorem k_22 : Cond.code ⟨"OldBeams$Frame", "<init>", "()V"⟩ prog_4_method_1_code 2 none ∈ tb := inT1 (List.mem_of_getElem? (i := 22) rfl) rfl
theorem k_23 : Cond.methodLink "OldBeams$Frame" 3 ⟨"java/lang/Object", "<init>", "()V"⟩ ∈ tb := inT1 (List.mem_of_getElem? (i := 23) rfl) rfl
theorem k_24 : Cond.classLink "OldBeams$Frame" 9 "[[I" ∈ tb := inT1 (List.mem_of_getElem? (i := 24) rfl) rfl
theorem k_26 : Cond.classLink "OldBeams$Frame" 16 "OldBeams$Beam" ∈ tb := inT1 (List.mem_of_getElem? (i := 26) rfl) rfl
theorem k_28 : Cond.instantiable "OldBeams$Beam" 13 ∈ tb := inT1 (List.mem_of_getElem? (i := 28) rfl) rfl
theorem k_30 : Cond.instanceMethod ⟨"OldBeams$Beam", "<init>", "()V"⟩ ∈ tb := inT1 (List.mem_of_getElem? (i := 30) rfl) rfl
theorem k_31 : Cond.code ⟨"OldBeams$Beam", "<init>", "()V"⟩ prog_2_method_1_code 1 none ∈ tb := inT1 (List.mem_of_getElem? (i := 31) rfl) rfl
theorem k_32 : Cond.methodLink "OldBeams$Beam" 3 ⟨"java/lang/Object", "<init>", "()V"⟩ ∈ tb := inT1 (List.mem_of_getElem? (i := 32) rfl) rfl
theorem k_33 : Cond.fieldLink "OldBeams$Beam" 31 "OldBeams$Beam" "kind" "I" ∈ tb := inT1 (List.mem_of_getElem? (i := 33) rfl) rfl
theorem k_34 : Cond.fieldLink "OldBeams$Frame" 129 "OldBeams$Beam" "kind" "I" ∈ tb := inT1 (List.mem_of_getElem? (i := 34) rfl) rfl
theorem k_35 : Cond.fieldLink "OldBeams$Beam" 35 "OldBeams$Beam" "length" "I" ∈ tb := inT1 (List.mem_of_getElem? (i := 35) rfl) rfl
theorem k_36 : Cond.fieldLink "OldBeams$Frame" 58 "OldBeams$Beam" "length" "I" ∈ tb := inT1 (List.mem_of_getElem? (i := 36) rfl) rfl
theorem k_37 : Cond.fieldLink "OldBeams" 91 "OldBeams$Beam" "length" "I" ∈ tb := inT1 (List.mem_of_getElem? (i := 37) rfl) rfl
theorem k_38 : Cond.fieldLink "OldBeams$Beam" 38 "OldBeams$Beam" "width" "I" ∈ tb := inT1 (List.mem_of_getElem? (i := 38) rfl) rfl
theorem k_39 : Cond.fieldLink "OldBeams$Frame" 132 "OldBeams$Beam" "width" "I" ∈ tb := inT1 (List.mem_of_getElem? (i := 39) rfl) rfl
theorem k_40 : Cond.fieldLink "OldBeams$Beam" 41 "OldBeams$Beam" "height" "I" ∈ tb := inT1 (List.mem_of_getElem? (i := 40) rfl) rfl
theorem k_41 : Cond.fieldLink "OldBeams$Frame" 135 "OldBeams$Beam" "height" "I" ∈ tb := inT1 (List.mem_of_getElem? (i := 41) rfl) rfl
theorem k_42 : Cond.fieldLink "OldBeams" 101 "OldBeams$Beam" "isWet" "Z" ∈ tb := inT1 (List.mem_of_getElem? (i := 42) rfl) rfl
theorem k_43 : Cond.fieldLink "OldBeams$Frame" 149 "OldBeams$Beam" "isWet" "Z" ∈ tb := inT1 (List.mem_of_getElem? (i := 43) rfl) rfl
theorem k_44 : Cond.fieldLink "OldBeams$Beam" 9 "OldBeams$Beam" "place" "[I" ∈ tb := inT1 (List.mem_of_getElem? (i := 44) rfl) rfl
theorem k_45 : Cond.fieldLink "OldBeams" 84 "OldBeams$Beam" "place" "[I" ∈ tb := inT1 (List.mem_of_getElem? (i := 45) rfl) rfl
theorem k_46 : Cond.fieldLink "OldBeams$Beam" 15 "OldBeams$Beam" "on" "[I" ∈ tb := inT1 (List.mem_of_getElem? (i := 46) rfl) rfl
theorem k_47 : Cond.fieldLink "OldBeams" 94 "OldBeams$Beam" "on" "[I" ∈ tb := inT1 (List.mem_of_getElem? (i := 47) rfl) rfl
theorem k_48 : Cond.fieldLink "OldBeams$Frame" 75 "OldBeams$Beam" "on" "[I" ∈ tb := inT1 (List.mem_of_getElem? (i := 48) rfl) rfl
theorem k_49 : Cond.fieldLink "OldBeams$Beam" 18 "OldBeams$Beam" "where" "[I" ∈ tb := inT1 (List.mem_of_getElem? (i := 49) rfl) rfl
theorem k_50 : Cond.fieldLink "OldBeams$Frame" 123 "OldBeams$Beam" "where" "[I" ∈ tb := inT1 (List.mem_of_getElem? (i := 50) rfl) rfl
theorem k_51 : Cond.fieldLink "OldBeams$Beam" 21 "OldBeams$Beam" "loaded" "[J" ∈ tb := inT1 (List.mem_of_getElem? (i := 51) rfl) rfl
theorem k_52 : Cond.fieldLink "OldBeams$Frame" 68 "OldBeams$Beam" "loaded" "[J" ∈ tb := inT1 (List.mem_of_getElem? (i := 52) rfl) rfl
theorem k_53 : Cond.fieldLink "OldBeams$Beam" 25 "OldBeams$Beam" "forces" "[J" ∈ tb := inT1 (List.mem_of_getElem? (i := 53) rfl) rfl
theorem k_54 : Cond.fieldLink "OldBeams$Frame" 114 "OldBeams$Beam" "forces" "[J" ∈ tb := inT1 (List.mem_of_getElem? (i := 54) rfl) rfl
theorem k_55 : Cond.fieldLink "OldBeams$Beam" 28 "OldBeams$Beam" "push" "[J" ∈ tb := inT1 (List.mem_of_getElem? (i := 55) rfl) rfl
theorem k_56 : Cond.fieldLink "OldBeams" 151 "OldBeams$Beam" "push" "[J" ∈ tb := inT1 (List.mem_of_getElem? (i := 56) rfl) rfl
theorem k_57 : Cond.fieldLink "OldBeams$Frame" 126 "OldBeams$Beam" "push" "[J" ∈ tb := inT1 (List.mem_of_getElem? (i := 57) rfl) rfl
theorem k_58 : Cond.fieldLink "OldBeams$Beam" 61 "OldBeams$Beam" "greatestBending" "J" ∈ tb := inT1 (List.mem_of_getElem? (i := 58) rfl) rfl
theorem k_59 : Cond.fieldLink "OldBeams" 162 "OldBeams$Beam" "greatestBending" "J" ∈ tb := inT1 (List.mem_of_getElem? (i := 59) rfl) rfl
theorem k_60 : Cond.fieldLink "OldBeams$Frame" 142 "OldBeams$Beam" "greatestBending" "J" ∈ tb := inT1 (List.mem_of_getElem? (i := 60) rfl) rfl
theorem k_61 : Cond.fieldLink "OldBeams$Beam" 65 "OldBeams$Beam" "greatestPlace" "I" ∈ tb := inT1 (List.mem_of_getElem? (i := 61) rfl) rfl
theorem k_62 : Cond.fieldLink "OldBeams" 159 "OldBeams$Beam" "greatestPlace" "I" ∈ tb := inT1 (List.mem_of_getElem? (i := 62) rfl) rfl
theorem k_90 : Cond.arrayClass FieldType.int ∈ tb := inT1 (List.mem_of_getElem? (i := 90) rfl) rfl
theorem k_91 : Cond.arrayClass FieldType.boolean ∈ tb := inT1 (List.mem_of_getElem? (i := 91) rfl) rfl
theorem k_92 : Cond.arrayClass FieldType.long ∈ tb := inT1 (List.mem_of_getElem? (i := 92) rfl) rfl
theorem k_93 : Cond.fieldLink "OldBeams$Frame" 11 "OldBeams$Frame" "kinds" "[[I" ∈ tb := inT1 (List.mem_of_getElem? (i := 93) rfl) rfl
theorem k_94 : Cond.fieldLink "OldBeams" 49 "OldBeams$Frame" "kinds" "[[I" ∈ tb := inT1 (List.mem_of_getElem? (i := 94) rfl) rfl
theorem k_95 : Cond.fieldLink "OldBeams$Frame" 18 "OldBeams$Frame" "beams" "[LOldBeams$Beam;" ∈ tb := inT1 (List.mem_of_getElem? (i := 95) rfl) rfl
theorem k_96 : Cond.fieldLink "OldBeams" 75 "OldBeams$Frame" "beams" "[LOldBeams$Beam;" ∈ tb := inT1 (List.mem_of_getElem? (i := 96) rfl) rfl
theorem k_97 : Cond.fieldLink "OldBeams$Frame" 46 "OldBeams$Frame" "beamCount" "I" ∈ tb := inT1 (List.mem_of_getElem? (i := 97) rfl) rfl
theorem k_98 : Cond.fieldLink "OldBeams" 57 "OldBeams$Frame" "beamCount" "I" ∈ tb := inT1 (List.mem_of_getElem? (i := 98) rfl) rfl
theorem k_99 : Cond.fieldLink "OldBeams" 130 "OldBeams$Frame" "fallen" "I" ∈ tb := inT1 (List.mem_of_getElem? (i := 99) rfl) rfl
theorem k_100 : Cond.fieldLink "OldBeams$Frame" 86 "OldBeams$Frame" "fallen" "I" ∈ tb := inT1 (List.mem_of_getElem? (i := 100) rfl) rfl
theorem k_101 : Cond.fieldLink "OldBeams$Frame" 22 "OldBeams$Frame" "loadBeam" "[I" ∈ tb := inT1 (List.mem_of_getElem? (i := 101) rfl) rfl
theorem k_102 : Cond.fieldLink "OldBeams$Frame" 26 "OldBeams$Frame" "loadPlace" "[I" ∈ tb := inT1 (List.mem_of_getElem? (i := 102) rfl) rfl
theorem k_103 : Cond.fieldLink "OldBeams$Frame" 29 "OldBeams$Frame" "loadWeight" "[I" ∈ tb := inT1 (List.mem_of_getElem? (i := 103) rfl) rfl
theorem k_104 : Cond.fieldLink "OldBeams" 127 "OldBeams$Frame" "loadWeight" "[I" ∈ tb := inT1 (List.mem_of_getElem? (i := 104) rfl) rfl
theorem k_105 : Cond.fieldLink "OldBeams$Frame" 32 "OldBeams$Frame" "loadIsOn" "[Z" ∈ tb := inT1 (List.mem_of_getElem? (i := 105) rfl) rfl
theorem k_106 : Cond.fieldLink "OldBeams" 119 "OldBeams$Frame" "loadIsOn" "[Z" ∈ tb := inT1 (List.mem_of_getElem? (i := 106) rfl) rfl
theorem k_107 : Cond.fieldLink "OldBeams$Frame" 65 "OldBeams$Frame" "loadCount" "I" ∈ tb := inT1 (List.mem_of_getElem? (i := 107) rfl) rfl
theorem k_108 : Cond.fieldLink "OldBeams" 112 "OldBeams$Frame" "loadCount" "I" ∈ tb := inT1 (List.mem_of_getElem? (i := 108) rfl) rfl
theorem k_109 : Cond.fieldLink "OldBeams$Frame" 36 "OldBeams$Frame" "propBeam" "[I" ∈ tb := inT1 (List.mem_of_getElem? (i := 109) rfl) rfl
theorem k_110 : Cond.fieldLink "OldBeams$Frame" 39 "OldBeams$Frame" "propPlace" "[I" ∈ tb := inT1 (List.mem_of_getElem? (i := 110) rfl) rfl
theorem k_111 : Cond.fieldLink "OldBeams$Frame" 42 "OldBeams$Frame" "propPush" "[I" ∈ tb := inT1 (List.mem_of_getElem? (i := 111) rfl) rfl
theorem k_112 : Cond.fieldLink "OldBeams$Frame" 72 "OldBeams$Frame" "propCount" "I" ∈ tb := inT1 (List.mem_of_getElem? (i := 112) rfl) rfl
theorem k_113 : Cond.fieldLink "OldBeams" 251 "OldBeams$Frame" "propCount" "I" ∈ tb := inT1 (List.mem_of_getElem? (i := 113) rfl) rfl
theorem k_114 : Cond.fieldLink "OldBeams$Frame" 93 "OldBeams$Frame" "setProps" "I" ∈ tb := inT1 (List.mem_of_getElem? (i := 114) rfl) rfl
theorem k_115 : Cond.fieldLink "OldBeams" 260 "OldBeams$Frame" "setProps" "I" ∈ tb := inT1 (List.mem_of_getElem? (i := 115) rfl) rfl
theorem k_116 : Cond.fieldLink "OldBeams$Frame" 159 "OldBeams$Frame" "triedDown" "I" ∈ tb := inT1 (List.mem_of_getElem? (i := 116) rfl) rfl
theorem k_117 : Cond.fieldLink "OldBeams" 248 "OldBeams$Frame" "triedDown" "I" ∈ tb := inT1 (List.mem_of_getElem? (i := 117) rfl) rfl
theorem k_149 : Cond.classLink "OldBeams" 16 "OldBeams$Looks" ∈ tb := inT1 (List.mem_of_getElem? (i := 149) rfl) rfl
theorem k_150 : Cond.instantiable "OldBeams$Looks" 9 ∈ tb := inT1 (List.mem_of_getElem? (i := 150) rfl) rfl
theorem k_151 : Cond.methodLink "OldBeams" 18 ⟨"OldBeams$Looks", "<init>", "()V"⟩ ∈ tb := inT1 (List.mem_of_getElem? (i := 151) rfl) rfl
theorem k_152 : Cond.instanceMethod ⟨"OldBeams$Looks", "<init>", "()V"⟩ ∈ tb := inT1 (List.mem_of_getElem? (i := 152) rfl) rfl
theorem k_153 : Cond.code ⟨"OldBeams$Looks", "<init>", "()V"⟩ prog_5_method_1_code 3 none ∈ tb := inT1 (List.mem_of_getElem? (i := 153) rfl) rfl
theorem k_154 : Cond.methodLink "OldBeams$Looks" 3 ⟨"java/lang/Object", "<init>", "()V"⟩ ∈ tb := inT1 (List.mem_of_getElem? (i := 154) rfl) rfl
theorem k_155 : Cond.classLink "OldBeams$Looks" 9 "[[I" ∈ tb := inT1 (List.mem_of_getElem? (i := 155) rfl) rfl
theorem k_156 : Cond.fieldLink "OldBeams$Looks" 11 "OldBeams$Looks" "weights" "[[I" ∈ tb := inT1 (List.mem_of_getElem? (i := 156) rfl) rfl
theorem k_157 : Cond.fieldLink "OldBeams" 179 "OldBeams$Looks" "weights" "[[I" ∈ tb := inT1 (List.mem_of_getElem? (i := 157) rfl) rfl
theorem k_158 : Cond.fieldLink "OldBeams$Looks" 16 "OldBeams$Looks" "tools" "[[I" ∈ tb := inT1 (List.mem_of_getElem? (i := 158) rfl) rfl
theorem k_159 : Cond.fieldLink "OldBeams" 188 "OldBeams$Looks" "tools" "[[I" ∈ tb := inT1 (List.mem_of_getElem? (i := 159) rfl) rfl
theorem k_160 : Cond.fieldLink "OldBeams$Looks" 19 "OldBeams$Looks" "lookBeam" "[I" ∈ tb := inT1 (List.mem_of_getElem? (i := 160) rfl) rfl
theorem k_161 : Cond.fieldLink "OldBeams$Looks" 23 "OldBeams$Looks" "lookTool" "[I" ∈ tb := inT1 (List.mem_of_getElem? (i := 161) rfl) rfl
theorem k_162 : Cond.fieldLink "OldBeams$Looks" 26 "OldBeams$Looks" "lookOutcome" "[I" ∈ tb := inT1 (List.mem_of_getElem? (i := 162) rfl) rfl
theorem k_163 : Cond.fieldLink "OldBeams$Looks" 29 "OldBeams$Looks" "lookYear" "[I" ∈ tb := inT1 (List.mem_of_getElem? (i := 163) rfl) rfl
theorem k_164 : Cond.fieldLink "OldBeams$Looks" 39 "OldBeams$Looks" "lookCount" "I" ∈ tb := inT1 (List.mem_of_getElem? (i := 164) rfl) rfl
theorem k_165 : Cond.fieldLink "OldBeams" 195 "OldBeams$Looks" "lookCount" "I" ∈ tb := inT1 (List.mem_of_getElem? (i := 165) rfl) rfl
theorem k_166 : Cond.fieldLink "OldBeams$Looks" 32 "OldBeams$Looks" "known" "[J" ∈ tb := inT1 (List.mem_of_getElem? (i := 166) rfl) rfl
theorem k_167 : Cond.fieldLink "OldBeams" 209 "OldBeams$Looks" "known" "[J" ∈ tb := inT1 (List.mem_of_getElem? (i := 167) rfl) rfl
theorem k_168 : Cond.fieldLink "OldBeams$Looks" 36 "OldBeams$Looks" "next" "[J" ∈ tb := inT1 (List.mem_of_getElem? (i := 168) rfl) rfl
theorem k_188 : Cond.classLink "OldBeams" 23 "OldBeams$Fraction" ∈ tb := inT1 (List.mem_of_getElem? (i := 188) rfl) rfl
theorem k_189 : Cond.instantiable "OldBeams$Fraction" 2 ∈ tb := inT1 (List.mem_of_getElem? (i := 189) rfl) rfl
theorem k_191 : Cond.instanceMethod ⟨"OldBeams$Fraction", "<init>", "()V"⟩ ∈ tb := inT1 (List.mem_of_getElem? (i := 191) rfl) rfl
theorem k_192 : Cond.code ⟨"OldBeams$Fraction", "<init>", "()V"⟩ prog_3_method_1_code 1 none ∈ tb := inT1 (List.mem_of_getElem? (i := 192) rfl) rfl
theorem k_193 : Cond.methodLink "OldBeams$Fraction" 1 ⟨"java/lang/Object", "<init>", "()V"⟩ ∈ tb := inT1 (List.mem_of_getElem? (i := 193) rfl) rfl
theorem k_194 : Cond.fieldLink "OldBeams$Fraction" 7 "OldBeams$Fraction" "above" "J" ∈ tb := inT1 (List.mem_of_getElem? (i := 194) rfl) rfl
theorem k_195 : Cond.fieldLink "OldBeams$Fraction" 13 "OldBeams$Fraction" "below" "J" ∈ tb := inT1 (List.mem_of_getElem? (i := 195) rfl) rfl
theorem k_201 : Cond.fieldLink "OldBeams" 12 "OldBeams" "frame" "LOldBeams$Frame;" ∈ tb := inT1 (List.mem_of_getElem? (i := 201) rfl) rfl
theorem k_202 : Cond.fieldLink "OldBeams" 19 "OldBeams" "looks" "LOldBeams$Looks;" ∈ tb := inT1 (List.mem_of_getElem? (i := 202) rfl) rfl
theorem k_203 : Cond.fieldLink "OldBeams" 26 "OldBeams" "fraction" "LOldBeams$Fraction;" ∈ tb := inT1 (List.mem_of_getElem? (i := 203) rfl) rfl
theorem k_204 : Cond.fieldLink "OldBeams" 30 "OldBeams" "best" "LOldBeams$Fraction;" ∈ tb := inT1 (List.mem_of_getElem? (i := 204) rfl) rfl
theorem k_205 : Cond.fieldLink "OldBeams" 33 "OldBeams" "prices" "[I" ∈ tb := inT1 (List.mem_of_getElem? (i := 205) rfl) rfl
theorem k_206 : Cond.fieldLink "OldBeams" 37 "OldBeams" "shares" "[I" ∈ tb := inT1 (List.mem_of_getElem? (i := 206) rfl) rfl
theorem k_207 : Cond.fieldLink "OldBeams" 40 "OldBeams" "fallOrder" "[I" ∈ tb := inT1 (List.mem_of_getElem? (i := 207) rfl) rfl
theorem k_223 : Cond.methodLink "OldBeamsLaw" 13 ⟨"OldBeams", "kind", "(III)I"⟩ ∈ tb := inT1 (List.mem_of_getElem? (i := 223) rfl) rfl
theorem k_224 : Cond.instanceMethod ⟨"OldBeams", "kind", "(III)I"⟩ ∈ tb := inT1 (List.mem_of_getElem? (i := 224) rfl) rfl
theorem k_225 : Cond.selects "OldBeams" ⟨"OldBeams", "kind", "(III)I"⟩ ⟨"OldBeams", "kind", "(III)I"⟩ ∈ tb := inT1 (List.mem_of_getElem? (i := 225) rfl) rfl
theorem k_226 : Cond.code ⟨"OldBeams", "kind", "(III)I"⟩ prog_1_method_2_code 6 (some .int) ∈ tb := inT1 (List.mem_of_getElem? (i := 226) rfl) rfl
theorem k_227 : Cond.methodLink "OldBeams" 43 ⟨"OldBeams", "within", "(III)Z"⟩ ∈ tb := inT1 (List.mem_of_getElem? (i := 227) rfl) rfl
theorem k_228 : Cond.static ⟨"OldBeams", "within", "(III)Z"⟩ ∈ tb := inT1 (List.mem_of_getElem? (i := 228) rfl) rfl
theorem k_229 : Cond.code ⟨"OldBeams", "within", "(III)Z"⟩ prog_1_method_37_code 3 (some .boolean) ∈ tb := inT1 (List.mem_of_getElem? (i := 229) rfl) rfl
theorem k_230 : Cond.constant "OldBeams" 47 (-900001) ∈ tb := inT1 (List.mem_of_getElem? (i := 230) rfl) rfl
theorem k_231 : Cond.constant "OldBeams" 48 (-900002) ∈ tb := inT1 (List.mem_of_getElem? (i := 231) rfl) rfl
theorem k_232 : Cond.methodLink "OldBeamsLaw" 18 ⟨"OldBeams", "beam", "(IIIII)I"⟩ ∈ tb := inT1 (List.mem_of_getElem? (i := 232) rfl) rfl
theorem k_233 : Cond.instanceMethod ⟨"OldBeams", "beam", "(IIIII)I"⟩ ∈ tb := inT1 (List.mem_of_getElem? (i := 233) rfl) rfl
theorem k_234 : Cond.selects "OldBeams" ⟨"OldBeams", "beam", "(IIIII)I"⟩ ⟨"OldBeams", "beam", "(IIIII)I"⟩ ∈ tb := inT1 (List.mem_of_getElem? (i := 234) rfl) rfl
theorem k_235 : Cond.code ⟨"OldBeams", "beam", "(IIIII)I"⟩ prog_1_method_3_code 6 (some .int) ∈ tb := inT1 (List.mem_of_getElem? (i := 235) rfl) rfl
theorem k_236 : Cond.methodLink "OldBeams" 53 ⟨"OldBeams", "isYear", "(I)Z"⟩ ∈ tb := inT1 (List.mem_of_getElem? (i := 236) rfl) rfl
theorem k_237 : Cond.static ⟨"OldBeams", "isYear", "(I)Z"⟩ ∈ tb := inT1 (List.mem_of_getElem? (i := 237) rfl) rfl
theorem k_238 : Cond.code ⟨"OldBeams", "isYear", "(I)Z"⟩ prog_1_method_38_code 1 (some .boolean) ∈ tb := inT1 (List.mem_of_getElem? (i := 238) rfl) rfl
theorem k_239 : Cond.constant "OldBeams" 61 (-900004) ∈ tb := inT1 (List.mem_of_getElem? (i := 239) rfl) rfl
theorem k_240 : Cond.methodLink "OldBeams" 62 ⟨"OldBeams$Frame", "addBeam", "(IIII)I"⟩ ∈ tb := inT2 (List.mem_of_getElem? (i := 0) rfl) rfl
theorem k_241 : Cond.instanceMethod ⟨"OldBeams$Frame", "addBeam", "(IIII)I"⟩ ∈ tb := inT2 (List.mem_of_getElem? (i := 1) rfl) rfl
theorem k_242 : Cond.selects "OldBeams$Frame" ⟨"OldBeams$Frame", "addBeam", "(IIII)I"⟩ ⟨"OldBeams$Frame", "addBeam", "(IIII)I"⟩ ∈ tb := inT2 (List.mem_of_getElem? (i := 2) rfl) rfl
theorem k_243 : Cond.code ⟨"OldBeams$Frame", "addBeam", "(IIII)I"⟩ prog_4_method_4_code 6 (some .int) ∈ tb := inT2 (List.mem_of_getElem? (i := 3) rfl) rfl
theorem k_244 : Cond.methodLink "OldBeams$Frame" 61 ⟨"OldBeams$Beam", "begin", "(IIII)V"⟩ ∈ tb := inT2 (List.mem_of_getElem? (i := 4) rfl) rfl
theorem k_245 : Cond.instanceMethod ⟨"OldBeams$Beam", "begin", "(IIII)V"⟩ ∈ tb := inT2 (List.mem_of_getElem? (i := 5) rfl) rfl
theorem k_246 : Cond.selects "OldBeams$Beam" ⟨"OldBeams$Beam", "begin", "(IIII)V"⟩ ⟨"OldBeams$Beam", "begin", "(IIII)V"⟩ ∈ tb := inT2 (List.mem_of_getElem? (i := 6) rfl) rfl
theorem k_247 : Cond.code ⟨"OldBeams$Beam", "begin", "(IIII)V"⟩ prog_2_method_2_code 5 none ∈ tb := inT2 (List.mem_of_getElem? (i := 7) rfl) rfl
theorem k_248 : Cond.constant "OldBeams$Beam" 44 (-900009) ∈ tb := inT2 (List.mem_of_getElem? (i := 8) rfl) rfl
theorem k_249 : Cond.methodLink "OldBeams$Beam" 45 ⟨"OldBeams$Beam", "putSeat", "(IIII)V"⟩ ∈ tb := inT2 (List.mem_of_getElem? (i := 9) rfl) rfl
theorem k_250 : Cond.instanceMethod ⟨"OldBeams$Beam", "putSeat", "(IIII)V"⟩ ∈ tb := inT2 (List.mem_of_getElem? (i := 10) rfl) rfl
theorem k_251 : Cond.selects "OldBeams$Beam" ⟨"OldBeams$Beam", "putSeat", "(IIII)V"⟩ ⟨"OldBeams$Beam", "putSeat", "(IIII)V"⟩ ∈ tb := inT2 (List.mem_of_getElem? (i := 11) rfl) rfl
theorem k_252 : Cond.code ⟨"OldBeams$Beam", "putSeat", "(IIII)V"⟩ prog_2_method_4_code 5 none ∈ tb := inT2 (List.mem_of_getElem? (i := 12) rfl) rfl
theorem k_253 : Cond.methodLink "OldBeamsLaw" 23 ⟨"OldBeams", "seat", "(IIIII)I"⟩ ∈ tb := inT2 (List.mem_of_getElem? (i := 13) rfl) rfl
theorem k_254 : Cond.instanceMethod ⟨"OldBeams", "seat", "(IIIII)I"⟩ ∈ tb := inT2 (List.mem_of_getElem? (i := 14) rfl) rfl
theorem k_255 : Cond.selects "OldBeams" ⟨"OldBeams", "seat", "(IIIII)I"⟩ ⟨"OldBeams", "seat", "(IIIII)I"⟩ ∈ tb := inT2 (List.mem_of_getElem? (i := 15) rfl) rfl
theorem k_256 : Cond.code ⟨"OldBeams", "seat", "(IIIII)I"⟩ prog_1_method_4_code 8 (some .int) ∈ tb := inT2 (List.mem_of_getElem? (i := 16) rfl) rfl
theorem k_257 : Cond.methodLink "OldBeams" 66 ⟨"OldBeams$Frame", "hasBeam", "(I)Z"⟩ ∈ tb := inT2 (List.mem_of_getElem? (i := 17) rfl) rfl
theorem k_258 : Cond.instanceMethod ⟨"OldBeams$Frame", "hasBeam", "(I)Z"⟩ ∈ tb := inT2 (List.mem_of_getElem? (i := 18) rfl) rfl
theorem k_259 : Cond.selects "OldBeams$Frame" ⟨"OldBeams$Frame", "hasBeam", "(I)Z"⟩ ⟨"OldBeams$Frame", "hasBeam", "(I)Z"⟩ ∈ tb := inT2 (List.mem_of_getElem? (i := 19) rfl) rfl
theorem k_260 : Cond.code ⟨"OldBeams$Frame", "hasBeam", "(I)Z"⟩ prog_4_method_2_code 2 (some .boolean) ∈ tb := inT2 (List.mem_of_getElem? (i := 20) rfl) rfl
theorem k_262 : Cond.methodLink "OldBeams" 69 ⟨"OldBeams$Frame", "hasPlace", "(II)Z"⟩ ∈ tb := inT2 (List.mem_of_getElem? (i := 22) rfl) rfl
theorem k_263 : Cond.instanceMethod ⟨"OldBeams$Frame", "hasPlace", "(II)Z"⟩ ∈ tb := inT2 (List.mem_of_getElem? (i := 23) rfl) rfl
theorem k_264 : Cond.selects "OldBeams$Frame" ⟨"OldBeams$Frame", "hasPlace", "(II)Z"⟩ ⟨"OldBeams$Frame", "hasPlace", "(II)Z"⟩ ∈ tb := inT2 (List.mem_of_getElem? (i := 24) rfl) rfl
theorem k_265 : Cond.code ⟨"OldBeams$Frame", "hasPlace", "(II)Z"⟩ prog_4_method_3_code 3 (some .boolean) ∈ tb := inT2 (List.mem_of_getElem? (i := 25) rfl) rfl
theorem k_266 : Cond.methodLink "OldBeams$Frame" 54 ⟨"OldBeams$Frame", "hasBeam", "(I)Z"⟩ ∈ tb := inT2 (List.mem_of_getElem? (i := 26) rfl) rfl
theorem k_267 : Cond.constant "OldBeams" 73 (-900009) ∈ tb := inT2 (List.mem_of_getElem? (i := 27) rfl) rfl
theorem k_268 : Cond.constant "OldBeams" 74 (-900003) ∈ tb := inT2 (List.mem_of_getElem? (i := 28) rfl) rfl
theorem k_269 : Cond.methodLink "OldBeams" 79 ⟨"OldBeams$Beam", "mayPutSeat", "(II)Z"⟩ ∈ tb := inT2 (List.mem_of_getElem? (i := 29) rfl) rfl
theorem k_270 : Cond.instanceMethod ⟨"OldBeams$Beam", "mayPutSeat", "(II)Z"⟩ ∈ tb := inT2 (List.mem_of_getElem? (i := 30) rfl) rfl
theorem k_271 : Cond.selects "OldBeams$Beam" ⟨"OldBeams$Beam", "mayPutSeat", "(II)Z"⟩ ⟨"OldBeams$Beam", "mayPutSeat", "(II)Z"⟩ ∈ tb := inT2 (List.mem_of_getElem? (i := 31) rfl) rfl
theorem k_272 : Cond.code ⟨"OldBeams$Beam", "mayPutSeat", "(II)Z"⟩ prog_2_method_3_code 5 (some .boolean) ∈ tb := inT2 (List.mem_of_getElem? (i := 32) rfl) rfl
theorem k_273 : Cond.methodLink "OldBeams" 87 ⟨"OldBeams$Beam", "putSeat", "(IIII)V"⟩ ∈ tb := inT2 (List.mem_of_getElem? (i := 33) rfl) rfl
theorem k_274 : Cond.methodLink "OldBeamsLaw" 27 ⟨"OldBeams", "about", "(II)I"⟩ ∈ tb := inT2 (List.mem_of_getElem? (i := 34) rfl) rfl
theorem k_275 : Cond.instanceMethod ⟨"OldBeams", "about", "(II)I"⟩ ∈ tb := inT2 (List.mem_of_getElem? (i := 35) rfl) rfl
theorem k_276 : Cond.selects "OldBeams" ⟨"OldBeams", "about", "(II)I"⟩ ⟨"OldBeams", "about", "(II)I"⟩ ∈ tb := inT2 (List.mem_of_getElem? (i := 36) rfl) rfl
theorem k_277 : Cond.code ⟨"OldBeams", "about", "(II)I"⟩ prog_1_method_5_code 4 (some .int) ∈ tb := inT2 (List.mem_of_getElem? (i := 37) rfl) rfl
theorem k_278 : Cond.methodLink "OldBeams" 97 ⟨"OldBeams$Frame", "wholeStrength", "(I)I"⟩ ∈ tb := inT2 (List.mem_of_getElem? (i := 38) rfl) rfl
theorem k_279 : Cond.instanceMethod ⟨"OldBeams$Frame", "wholeStrength", "(I)I"⟩ ∈ tb := inT2 (List.mem_of_getElem? (i := 39) rfl) rfl
theorem k_280 : Cond.selects "OldBeams$Frame" ⟨"OldBeams$Frame", "wholeStrength", "(I)I"⟩ ⟨"OldBeams$Frame", "wholeStrength", "(I)I"⟩ ∈ tb := inT2 (List.mem_of_getElem? (i := 40) rfl) rfl
theorem k_281 : Cond.code ⟨"OldBeams$Frame", "wholeStrength", "(I)I"⟩ prog_4_method_17_code 3 (some .int) ∈ tb := inT2 (List.mem_of_getElem? (i := 41) rfl) rfl
theorem k_282 : Cond.methodLink "OldBeams" 105 ⟨"OldBeams", "asNumber", "(Z)I"⟩ ∈ tb := inT2 (List.mem_of_getElem? (i := 42) rfl) rfl
theorem k_283 : Cond.static ⟨"OldBeams", "asNumber", "(Z)I"⟩ ∈ tb := inT2 (List.mem_of_getElem? (i := 43) rfl) rfl
theorem k_284 : Cond.code ⟨"OldBeams", "asNumber", "(Z)I"⟩ prog_1_method_42_code 1 (some .int) ∈ tb := inT2 (List.mem_of_getElem? (i := 44) rfl) rfl
theorem k_285 : Cond.methodLink "OldBeams" 109 ⟨"OldBeams$Frame", "isDown", "(I)Z"⟩ ∈ tb := inT2 (List.mem_of_getElem? (i := 45) rfl) rfl
theorem k_286 : Cond.instanceMethod ⟨"OldBeams$Frame", "isDown", "(I)Z"⟩ ∈ tb := inT2 (List.mem_of_getElem? (i := 46) rfl) rfl
theorem k_287 : Cond.selects "OldBeams$Frame" ⟨"OldBeams$Frame", "isDown", "(I)Z"⟩ ⟨"OldBeams$Frame", "isDown", "(I)Z"⟩ ∈ tb := inT2 (List.mem_of_getElem? (i := 47) rfl) rfl
theorem k_288 : Cond.code ⟨"OldBeams$Frame", "isDown", "(I)Z"⟩ prog_4_method_12_code 2 (some .boolean) ∈ tb := inT2 (List.mem_of_getElem? (i := 48) rfl) rfl
theorem k_289 : Cond.methodLink "OldBeams$Frame" 89 ⟨"OldBeams$Frame", "downBy", "(I)I"⟩ ∈ tb := inT2 (List.mem_of_getElem? (i := 49) rfl) rfl
theorem k_290 : Cond.instanceMethod ⟨"OldBeams$Frame", "downBy", "(I)I"⟩ ∈ tb := inT2 (List.mem_of_getElem? (i := 50) rfl) rfl
theorem k_291 : Cond.selects "OldBeams$Frame" ⟨"OldBeams$Frame", "downBy", "(I)I"⟩ ⟨"OldBeams$Frame", "downBy", "(I)I"⟩ ∈ tb := inT2 (List.mem_of_getElem? (i := 51) rfl) rfl
theorem k_292 : Cond.code ⟨"OldBeams$Frame", "downBy", "(I)I"⟩ prog_4_method_10_code 5 (some .int) ∈ tb := inT2 (List.mem_of_getElem? (i := 52) rfl) rfl
theorem k_293 : Cond.methodLink "OldBeams$Frame" 78 ⟨"OldBeams$Frame", "restsOn", "(II)Z"⟩ ∈ tb := inT2 (List.mem_of_getElem? (i := 53) rfl) rfl
theorem k_294 : Cond.static ⟨"OldBeams$Frame", "restsOn", "(II)Z"⟩ ∈ tb := inT2 (List.mem_of_getElem? (i := 54) rfl) rfl
theorem k_295 : Cond.code ⟨"OldBeams$Frame", "restsOn", "(II)Z"⟩ prog_4_method_11_code 2 (some .boolean) ∈ tb := inT2 (List.mem_of_getElem? (i := 55) rfl) rfl
theorem k_296 : Cond.constant "OldBeams$Frame" 82 (-900009) ∈ tb := inT2 (List.mem_of_getElem? (i := 56) rfl) rfl
theorem k_298 : Cond.static ⟨"OldBeams", "isIn", "(II)Z"⟩ ∈ tb := inT2 (List.mem_of_getElem? (i := 58) rfl) rfl
theorem k_299 : Cond.code ⟨"OldBeams", "isIn", "(II)Z"⟩ prog_1_method_41_code 2 (some .boolean) ∈ tb := inT2 (List.mem_of_getElem? (i := 59) rfl) rfl
theorem k_300 : Cond.methodLink "OldBeamsLaw" 32 ⟨"OldBeams", "wet", "(IZ)I"⟩ ∈ tb := inT2 (List.mem_of_getElem? (i := 60) rfl) rfl
theorem k_301 : Cond.instanceMethod ⟨"OldBeams", "wet", "(IZ)I"⟩ ∈ tb := inT2 (List.mem_of_getElem? (i := 61) rfl) rfl
theorem k_302 : Cond.selects "OldBeams" ⟨"OldBeams", "wet", "(IZ)I"⟩ ⟨"OldBeams", "wet", "(IZ)I"⟩ ∈ tb := inT2 (List.mem_of_getElem? (i := 62) rfl) rfl
theorem k_303 : Cond.code ⟨"OldBeams", "wet", "(IZ)I"⟩ prog_1_method_6_code 5 (some .int) ∈ tb := inT2 (List.mem_of_getElem? (i := 63) rfl) rfl
theorem k_304 : Cond.methodLink "OldBeamsLaw" 37 ⟨"OldBeams", "load", "(III)I"⟩ ∈ tb := inT2 (List.mem_of_getElem? (i := 64) rfl) rfl
theorem k_305 : Cond.instanceMethod ⟨"OldBeams", "load", "(III)I"⟩ ∈ tb := inT2 (List.mem_of_getElem? (i := 65) rfl) rfl
theorem k_306 : Cond.selects "OldBeams" ⟨"OldBeams", "load", "(III)I"⟩ ⟨"OldBeams", "load", "(III)I"⟩ ∈ tb := inT2 (List.mem_of_getElem? (i := 66) rfl) rfl
theorem k_307 : Cond.code ⟨"OldBeams", "load", "(III)I"⟩ prog_1_method_7_code 4 (some .int) ∈ tb := inT2 (List.mem_of_getElem? (i := 67) rfl) rfl
theorem k_308 : Cond.methodLink "OldBeams" 115 ⟨"OldBeams$Frame", "addLoad", "(III)I"⟩ ∈ tb := inT2 (List.mem_of_getElem? (i := 68) rfl) rfl
theorem k_309 : Cond.instanceMethod ⟨"OldBeams$Frame", "addLoad", "(III)I"⟩ ∈ tb := inT2 (List.mem_of_getElem? (i := 69) rfl) rfl
theorem k_310 : Cond.selects "OldBeams$Frame" ⟨"OldBeams$Frame", "addLoad", "(III)I"⟩ ⟨"OldBeams$Frame", "addLoad", "(III)I"⟩ ∈ tb := inT2 (List.mem_of_getElem? (i := 70) rfl) rfl
theorem k_311 : Cond.code ⟨"OldBeams$Frame", "addLoad", "(III)I"⟩ prog_4_method_5_code 5 (some .int) ∈ tb := inT2 (List.mem_of_getElem? (i := 71) rfl) rfl
theorem k_312 : Cond.methodLink "OldBeamsLaw" 41 ⟨"OldBeams", "takeOff", "(I)I"⟩ ∈ tb := inT2 (List.mem_of_getElem? (i := 72) rfl) rfl
theorem k_313 : Cond.instanceMethod ⟨"OldBeams", "takeOff", "(I)I"⟩ ∈ tb := inT2 (List.mem_of_getElem? (i := 73) rfl) rfl
theorem k_314 : Cond.selects "OldBeams" ⟨"OldBeams", "takeOff", "(I)I"⟩ ⟨"OldBeams", "takeOff", "(I)I"⟩ ∈ tb := inT2 (List.mem_of_getElem? (i := 74) rfl) rfl
theorem k_315 : Cond.code ⟨"OldBeams", "takeOff", "(I)I"⟩ prog_1_method_8_code 2 (some .int) ∈ tb := inT2 (List.mem_of_getElem? (i := 75) rfl) rfl
theorem k_316 : Cond.methodLink "OldBeams" 123 ⟨"OldBeams$Frame", "removeLoad", "(I)V"⟩ ∈ tb := inT2 (List.mem_of_getElem? (i := 76) rfl) rfl
theorem k_317 : Cond.instanceMethod ⟨"OldBeams$Frame", "removeLoad", "(I)V"⟩ ∈ tb := inT2 (List.mem_of_getElem? (i := 77) rfl) rfl
theorem k_318 : Cond.selects "OldBeams$Frame" ⟨"OldBeams$Frame", "removeLoad", "(I)V"⟩ ⟨"OldBeams$Frame", "removeLoad", "(I)V"⟩ ∈ tb := inT2 (List.mem_of_getElem? (i := 78) rfl) rfl
theorem k_319 : Cond.code ⟨"OldBeams$Frame", "removeLoad", "(I)V"⟩ prog_4_method_6_code 2 none ∈ tb := inT2 (List.mem_of_getElem? (i := 79) rfl) rfl
theorem k_320 : Cond.methodLink "OldBeamsLaw" 46 ⟨"OldBeams", "fall", "(I)I"⟩ ∈ tb := inT2 (List.mem_of_getElem? (i := 80) rfl) rfl
theorem k_321 : Cond.instanceMethod ⟨"OldBeams", "fall", "(I)I"⟩ ∈ tb := inT2 (List.mem_of_getElem? (i := 81) rfl) rfl
theorem k_322 : Cond.selects "OldBeams" ⟨"OldBeams", "fall", "(I)I"⟩ ⟨"OldBeams", "fall", "(I)I"⟩ ∈ tb := inT2 (List.mem_of_getElem? (i := 82) rfl) rfl
theorem k_323 : Cond.code ⟨"OldBeams", "fall", "(I)I"⟩ prog_1_method_9_code 2 (some .int) ∈ tb := inT2 (List.mem_of_getElem? (i := 83) rfl) rfl
theorem k_324 : Cond.methodLink "OldBeams" 133 ⟨"OldBeams", "isIn", "(II)Z"⟩ ∈ tb := inT2 (List.mem_of_getElem? (i := 84) rfl) rfl
theorem k_325 : Cond.methodLink "OldBeams" 136 ⟨"OldBeams$Frame", "downBy", "(I)I"⟩ ∈ tb := inT2 (List.mem_of_getElem? (i := 85) rfl) rfl
theorem k_326 : Cond.methodLink "OldBeams" 139 ⟨"java/lang/Integer", "bitCount", "(I)I"⟩ ∈ tb := inT2 (List.mem_of_getElem? (i := 86) rfl) rfl
theorem k_327 : Cond.static ⟨"java/lang/Integer", "bitCount", "(I)I"⟩ ∈ tb := inT2 (List.mem_of_getElem? (i := 87) rfl) rfl
theorem k_328 : Cond.code ⟨"java/lang/Integer", "bitCount", "(I)I"⟩ prog_8_method_49_code 1 (some .int) ∈ tb := inT2 (List.mem_of_getElem? (i := 88) rfl) rfl
theorem k_329 : Cond.constant "java/lang/Integer" 265 1431655765 ∈ tb := inT2 (List.mem_of_getElem? (i := 89) rfl) rfl
theorem k_330 : Cond.constant "java/lang/Integer" 266 858993459 ∈ tb := inT2 (List.mem_of_getElem? (i := 90) rfl) rfl
theorem k_331 : Cond.constant "java/lang/Integer" 267 252645135 ∈ tb := inT2 (List.mem_of_getElem? (i := 91) rfl) rfl
theorem k_332 : Cond.methodLink "OldBeamsLaw" 50 ⟨"OldBeams", "push", "(II)J"⟩ ∈ tb := inT2 (List.mem_of_getElem? (i := 92) rfl) rfl
theorem k_333 : Cond.instanceMethod ⟨"OldBeams", "push", "(II)J"⟩ ∈ tb := inT2 (List.mem_of_getElem? (i := 93) rfl) rfl
theorem k_334 : Cond.selects "OldBeams" ⟨"OldBeams", "push", "(II)J"⟩ ⟨"OldBeams", "push", "(II)J"⟩ ∈ tb := inT2 (List.mem_of_getElem? (i := 94) rfl) rfl
theorem k_335 : Cond.code ⟨"OldBeams", "push", "(II)J"⟩ prog_1_method_10_code 4 (some .long) ∈ tb := inT2 (List.mem_of_getElem? (i := 95) rfl) rfl
theorem k_336 : Cond.methodLink "OldBeams" 144 ⟨"OldBeams", "refusal", "(IZ)I"⟩ ∈ tb := inT2 (List.mem_of_getElem? (i := 96) rfl) rfl
theorem k_338 : Cond.instanceMethod ⟨"OldBeams", "refusal", "(IZ)I"⟩ ∈ tb := inT2 (List.mem_of_getElem? (i := 98) rfl) rfl
theorem k_339 : Cond.code ⟨"OldBeams", "refusal", "(IZ)I"⟩ prog_1_method_43_code 3 (some .int) ∈ tb := inT2 (List.mem_of_getElem? (i := 99) rfl) rfl
theorem k_340 : Cond.methodLink "OldBeams" 148 ⟨"OldBeams$Frame", "reckonNow", "()V"⟩ ∈ tb := inT2 (List.mem_of_getElem? (i := 100) rfl) rfl
theorem k_341 : Cond.instanceMethod ⟨"OldBeams$Frame", "reckonNow", "()V"⟩ ∈ tb := inT2 (List.mem_of_getElem? (i := 101) rfl) rfl
theorem k_342 : Cond.selects "OldBeams$Frame" ⟨"OldBeams$Frame", "reckonNow", "()V"⟩ ⟨"OldBeams$Frame", "reckonNow", "()V"⟩ ∈ tb := inT2 (List.mem_of_getElem? (i := 102) rfl) rfl
theorem k_343 : Cond.code ⟨"OldBeams$Frame", "reckonNow", "()V"⟩ prog_4_method_13_code 1 none ∈ tb := inT2 (List.mem_of_getElem? (i := 103) rfl) rfl
theorem k_344 : Cond.methodLink "OldBeams$Frame" 96 ⟨"OldBeams$Frame", "reckonAll", "(II)V"⟩ ∈ tb := inT2 (List.mem_of_getElem? (i := 104) rfl) rfl
theorem k_346 : Cond.instanceMethod ⟨"OldBeams$Frame", "reckonAll", "(II)V"⟩ ∈ tb := inT2 (List.mem_of_getElem? (i := 106) rfl) rfl
theorem k_347 : Cond.code ⟨"OldBeams$Frame", "reckonAll", "(II)V"⟩ prog_4_method_14_code 4 none ∈ tb := inT2 (List.mem_of_getElem? (i := 107) rfl) rfl
theorem k_348 : Cond.methodLink "OldBeams$Frame" 100 ⟨"OldBeams$Frame", "spreadForces", "(I)V"⟩ ∈ tb := inT2 (List.mem_of_getElem? (i := 108) rfl) rfl
theorem k_350 : Cond.instanceMethod ⟨"OldBeams$Frame", "spreadForces", "(I)V"⟩ ∈ tb := inT2 (List.mem_of_getElem? (i := 110) rfl) rfl
theorem k_351 : Cond.code ⟨"OldBeams$Frame", "spreadForces", "(I)V"⟩ prog_4_method_15_code 3 none ∈ tb := inT2 (List.mem_of_getElem? (i := 111) rfl) rfl
theorem k_352 : Cond.methodLink "OldBeams$Frame" 108 ⟨"OldBeams$Beam", "takeLoads", "()V"⟩ ∈ tb := inT2 (List.mem_of_getElem? (i := 112) rfl) rfl
theorem k_353 : Cond.instanceMethod ⟨"OldBeams$Beam", "takeLoads", "()V"⟩ ∈ tb := inT2 (List.mem_of_getElem? (i := 113) rfl) rfl
theorem k_354 : Cond.selects "OldBeams$Beam" ⟨"OldBeams$Beam", "takeLoads", "()V"⟩ ⟨"OldBeams$Beam", "takeLoads", "()V"⟩ ∈ tb := inT2 (List.mem_of_getElem? (i := 114) rfl) rfl
theorem k_355 : Cond.code ⟨"OldBeams$Beam", "takeLoads", "()V"⟩ prog_2_method_5_code 1 none ∈ tb := inT2 (List.mem_of_getElem? (i := 115) rfl) rfl
theorem k_356 : Cond.methodLink "OldBeams$Beam" 49 ⟨"java/lang/System", "arraycopy", "(Ljava/lang/Object;ILjava/lang/Object;II)V"⟩ ∈ tb := inT2 (List.mem_of_getElem? (i := 116) rfl) rfl
theorem k_357 : Cond.static ⟨"java/lang/System", "arraycopy", "(Ljava/lang/Object;ILjava/lang/Object;II)V"⟩ ∈ tb := inT2 (List.mem_of_getElem? (i := 117) rfl) rfl
theorem k_358 : Cond.native ⟨"java/lang/System", "arraycopy", "(Ljava/lang/Object;ILjava/lang/Object;II)V"⟩ ∈ tb := inT2 (List.mem_of_getElem? (i := 118) rfl) rfl
theorem k_359 : Cond.methodLink "OldBeams$Frame" 111 ⟨"OldBeams$Frame", "propBit", "(I)I"⟩ ∈ tb := inT2 (List.mem_of_getElem? (i := 119) rfl) rfl
theorem k_360 : Cond.static ⟨"OldBeams$Frame", "propBit", "(I)I"⟩ ∈ tb := inT2 (List.mem_of_getElem? (i := 120) rfl) rfl
theorem k_361 : Cond.code ⟨"OldBeams$Frame", "propBit", "(I)I"⟩ prog_4_method_9_code 1 (some .int) ∈ tb := inT2 (List.mem_of_getElem? (i := 121) rfl) rfl
theorem k_362 : Cond.methodLink "OldBeams$Frame" 104 ⟨"OldBeams$Frame", "reckonBeam", "(LOldBeams$Beam;)V"⟩ ∈ tb := inT2 (List.mem_of_getElem? (i := 122) rfl) rfl
theorem k_364 : Cond.instanceMethod ⟨"OldBeams$Frame", "reckonBeam", "(LOldBeams$Beam;)V"⟩ ∈ tb := inT2 (List.mem_of_getElem? (i := 124) rfl) rfl
theorem k_365 : Cond.code ⟨"OldBeams$Frame", "reckonBeam", "(LOldBeams$Beam;)V"⟩ prog_4_method_16_code 4 none ∈ tb := inT2 (List.mem_of_getElem? (i := 125) rfl) rfl
theorem k_366 : Cond.methodLink "OldBeams$Frame" 117 ⟨"OldBeams$Beam", "reckonPushes", "()V"⟩ ∈ tb := inT2 (List.mem_of_getElem? (i := 126) rfl) rfl
theorem k_367 : Cond.instanceMethod ⟨"OldBeams$Beam", "reckonPushes", "()V"⟩ ∈ tb := inT2 (List.mem_of_getElem? (i := 127) rfl) rfl
theorem k_368 : Cond.selects "OldBeams$Beam" ⟨"OldBeams$Beam", "reckonPushes", "()V"⟩ ⟨"OldBeams$Beam", "reckonPushes", "()V"⟩ ∈ tb := inT2 (List.mem_of_getElem? (i := 128) rfl) rfl
theorem k_369 : Cond.code ⟨"OldBeams$Beam", "reckonPushes", "()V"⟩ prog_2_method_6_code 7 none ∈ tb := inT2 (List.mem_of_getElem? (i := 129) rfl) rfl
theorem k_370 : Cond.methodLink "OldBeams$Beam" 55 ⟨"java/lang/Math", "floorDiv", "(JJ)J"⟩ ∈ tb := inT2 (List.mem_of_getElem? (i := 130) rfl) rfl
theorem k_371 : Cond.static ⟨"java/lang/Math", "floorDiv", "(JJ)J"⟩ ∈ tb := inT2 (List.mem_of_getElem? (i := 131) rfl) rfl
theorem k_372 : Cond.code ⟨"java/lang/Math", "floorDiv", "(JJ)J"⟩ prog_9_method_49_code 6 (some .long) ∈ tb := inT2 (List.mem_of_getElem? (i := 132) rfl) rfl
theorem k_373 : Cond.methodLink "OldBeams$Frame" 120 ⟨"OldBeams$Beam", "reckonGreatest", "()V"⟩ ∈ tb := inT2 (List.mem_of_getElem? (i := 133) rfl) rfl
theorem k_374 : Cond.instanceMethod ⟨"OldBeams$Beam", "reckonGreatest", "()V"⟩ ∈ tb := inT2 (List.mem_of_getElem? (i := 134) rfl) rfl
theorem k_375 : Cond.selects "OldBeams$Beam" ⟨"OldBeams$Beam", "reckonGreatest", "()V"⟩ ⟨"OldBeams$Beam", "reckonGreatest", "()V"⟩ ∈ tb := inT2 (List.mem_of_getElem? (i := 135) rfl) rfl
theorem k_376 : Cond.code ⟨"OldBeams$Beam", "reckonGreatest", "()V"⟩ prog_2_method_7_code 8 none ∈ tb := inT2 (List.mem_of_getElem? (i := 136) rfl) rfl
theorem k_377 : Cond.methodLink "OldBeams$Beam" 68 ⟨"java/lang/Math", "abs", "(J)J"⟩ ∈ tb := inT2 (List.mem_of_getElem? (i := 137) rfl) rfl
theorem k_378 : Cond.static ⟨"java/lang/Math", "abs", "(J)J"⟩ ∈ tb := inT2 (List.mem_of_getElem? (i := 138) rfl) rfl
theorem k_379 : Cond.code ⟨"java/lang/Math", "abs", "(J)J"⟩ prog_9_method_61_code 2 (some .long) ∈ tb := inT2 (List.mem_of_getElem? (i := 139) rfl) rfl
theorem k_380 : Cond.methodLink "OldBeamsLaw" 55 ⟨"OldBeams", "bending", "(II)J"⟩ ∈ tb := inT2 (List.mem_of_getElem? (i := 140) rfl) rfl
theorem k_381 : Cond.instanceMethod ⟨"OldBeams", "bending", "(II)J"⟩ ∈ tb := inT2 (List.mem_of_getElem? (i := 141) rfl) rfl
theorem k_382 : Cond.selects "OldBeams" ⟨"OldBeams", "bending", "(II)J"⟩ ⟨"OldBeams", "bending", "(II)J"⟩ ∈ tb := inT2 (List.mem_of_getElem? (i := 142) rfl) rfl
theorem k_383 : Cond.code ⟨"OldBeams", "bending", "(II)J"⟩ prog_1_method_11_code 4 (some .long) ∈ tb := inT2 (List.mem_of_getElem? (i := 143) rfl) rfl
theorem k_384 : Cond.methodLink "OldBeams" 155 ⟨"OldBeams$Beam", "bendingAt", "(I)J"⟩ ∈ tb := inT2 (List.mem_of_getElem? (i := 144) rfl) rfl
theorem k_385 : Cond.instanceMethod ⟨"OldBeams$Beam", "bendingAt", "(I)J"⟩ ∈ tb := inT2 (List.mem_of_getElem? (i := 145) rfl) rfl
theorem k_386 : Cond.selects "OldBeams$Beam" ⟨"OldBeams$Beam", "bendingAt", "(I)J"⟩ ⟨"OldBeams$Beam", "bendingAt", "(I)J"⟩ ∈ tb := inT2 (List.mem_of_getElem? (i := 146) rfl) rfl
theorem k_387 : Cond.code ⟨"OldBeams$Beam", "bendingAt", "(I)J"⟩ prog_2_method_8_code 5 (some .long) ∈ tb := inT2 (List.mem_of_getElem? (i := 147) rfl) rfl
theorem k_388 : Cond.methodLink "OldBeamsLaw" 59 ⟨"OldBeams", "greatest", "(IZ)J"⟩ ∈ tb := inT2 (List.mem_of_getElem? (i := 148) rfl) rfl
theorem k_389 : Cond.instanceMethod ⟨"OldBeams", "greatest", "(IZ)J"⟩ ∈ tb := inT2 (List.mem_of_getElem? (i := 149) rfl) rfl
theorem k_390 : Cond.selects "OldBeams" ⟨"OldBeams", "greatest", "(IZ)J"⟩ ⟨"OldBeams", "greatest", "(IZ)J"⟩ ∈ tb := inT2 (List.mem_of_getElem? (i := 150) rfl) rfl
theorem k_391 : Cond.code ⟨"OldBeams", "greatest", "(IZ)J"⟩ prog_1_method_12_code 5 (some .long) ∈ tb := inT2 (List.mem_of_getElem? (i := 151) rfl) rfl
theorem k_392 : Cond.methodLink "OldBeamsLaw" 64 ⟨"OldBeams", "lifts", "(I)I"⟩ ∈ tb := inT2 (List.mem_of_getElem? (i := 152) rfl) rfl
theorem k_393 : Cond.instanceMethod ⟨"OldBeams", "lifts", "(I)I"⟩ ∈ tb := inT2 (List.mem_of_getElem? (i := 153) rfl) rfl
theorem k_394 : Cond.selects "OldBeams" ⟨"OldBeams", "lifts", "(I)I"⟩ ⟨"OldBeams", "lifts", "(I)I"⟩ ∈ tb := inT2 (List.mem_of_getElem? (i := 154) rfl) rfl
theorem k_395 : Cond.code ⟨"OldBeams", "lifts", "(I)I"⟩ prog_1_method_13_code 3 (some .int) ∈ tb := inT2 (List.mem_of_getElem? (i := 155) rfl) rfl
theorem k_396 : Cond.methodLink "OldBeams" 166 ⟨"OldBeams$Beam", "isLifted", "()Z"⟩ ∈ tb := inT2 (List.mem_of_getElem? (i := 156) rfl) rfl
theorem k_397 : Cond.instanceMethod ⟨"OldBeams$Beam", "isLifted", "()Z"⟩ ∈ tb := inT2 (List.mem_of_getElem? (i := 157) rfl) rfl
theorem k_398 : Cond.selects "OldBeams$Beam" ⟨"OldBeams$Beam", "isLifted", "()Z"⟩ ⟨"OldBeams$Beam", "isLifted", "()Z"⟩ ∈ tb := inT2 (List.mem_of_getElem? (i := 158) rfl) rfl
theorem k_399 : Cond.code ⟨"OldBeams$Beam", "isLifted", "()Z"⟩ prog_2_method_9_code 1 (some .boolean) ∈ tb := inT2 (List.mem_of_getElem? (i := 159) rfl) rfl
theorem k_400 : Cond.methodLink "OldBeamsLaw" 68 ⟨"OldBeams", "holds", "(II)I"⟩ ∈ tb := inT2 (List.mem_of_getElem? (i := 160) rfl) rfl
theorem k_401 : Cond.instanceMethod ⟨"OldBeams", "holds", "(II)I"⟩ ∈ tb := inT2 (List.mem_of_getElem? (i := 161) rfl) rfl
theorem k_402 : Cond.selects "OldBeams" ⟨"OldBeams", "holds", "(II)I"⟩ ⟨"OldBeams", "holds", "(II)I"⟩ ∈ tb := inT2 (List.mem_of_getElem? (i := 162) rfl) rfl
theorem k_403 : Cond.code ⟨"OldBeams", "holds", "(II)I"⟩ prog_1_method_14_code 4 (some .int) ∈ tb := inT2 (List.mem_of_getElem? (i := 163) rfl) rfl
theorem k_404 : Cond.methodLink "OldBeams" 170 ⟨"OldBeams$Frame", "holdsWith", "(II)Z"⟩ ∈ tb := inT2 (List.mem_of_getElem? (i := 164) rfl) rfl
theorem k_405 : Cond.instanceMethod ⟨"OldBeams$Frame", "holdsWith", "(II)Z"⟩ ∈ tb := inT2 (List.mem_of_getElem? (i := 165) rfl) rfl
theorem k_406 : Cond.selects "OldBeams$Frame" ⟨"OldBeams$Frame", "holdsWith", "(II)Z"⟩ ⟨"OldBeams$Frame", "holdsWith", "(II)Z"⟩ ∈ tb := inT2 (List.mem_of_getElem? (i := 166) rfl) rfl
theorem k_407 : Cond.code ⟨"OldBeams$Frame", "holdsWith", "(II)Z"⟩ prog_4_method_18_code 4 (some .boolean) ∈ tb := inT2 (List.mem_of_getElem? (i := 167) rfl) rfl
theorem k_408 : Cond.methodLink "OldBeams$Frame" 138 ⟨"OldBeams$Beam", "isLifted", "()Z"⟩ ∈ tb := inT2 (List.mem_of_getElem? (i := 168) rfl) rfl
theorem k_409 : Cond.methodLink "OldBeams$Frame" 146 ⟨"OldBeams$Frame", "wholeStrength", "(I)I"⟩ ∈ tb := inT2 (List.mem_of_getElem? (i := 169) rfl) rfl
theorem k_410 : Cond.methodLink "OldBeamsLaw" 72 ⟨"OldBeams", "needs", "(I)I"⟩ ∈ tb := inT2 (List.mem_of_getElem? (i := 170) rfl) rfl
theorem k_411 : Cond.instanceMethod ⟨"OldBeams", "needs", "(I)I"⟩ ∈ tb := inT2 (List.mem_of_getElem? (i := 171) rfl) rfl
theorem k_412 : Cond.selects "OldBeams" ⟨"OldBeams", "needs", "(I)I"⟩ ⟨"OldBeams", "needs", "(I)I"⟩ ∈ tb := inT2 (List.mem_of_getElem? (i := 172) rfl) rfl
theorem k_413 : Cond.code ⟨"OldBeams", "needs", "(I)I"⟩ prog_1_method_15_code 4 (some .int) ∈ tb := inT2 (List.mem_of_getElem? (i := 173) rfl) rfl
theorem k_414 : Cond.methodLink "OldBeamsLaw" 76 ⟨"OldBeams", "weight", "(III)I"⟩ ∈ tb := inT2 (List.mem_of_getElem? (i := 174) rfl) rfl
theorem k_415 : Cond.instanceMethod ⟨"OldBeams", "weight", "(III)I"⟩ ∈ tb := inT2 (List.mem_of_getElem? (i := 175) rfl) rfl
theorem k_416 : Cond.selects "OldBeams" ⟨"OldBeams", "weight", "(III)I"⟩ ⟨"OldBeams", "weight", "(III)I"⟩ ∈ tb := inT2 (List.mem_of_getElem? (i := 176) rfl) rfl
theorem k_417 : Cond.code ⟨"OldBeams", "weight", "(III)I"⟩ prog_1_method_16_code 5 (some .int) ∈ tb := inT2 (List.mem_of_getElem? (i := 177) rfl) rfl
theorem k_418 : Cond.methodLink "OldBeams" 173 ⟨"OldBeams$Looks", "countAt", "(I)I"⟩ ∈ tb := inT2 (List.mem_of_getElem? (i := 178) rfl) rfl
theorem k_419 : Cond.instanceMethod ⟨"OldBeams$Looks", "countAt", "(I)I"⟩ ∈ tb := inT2 (List.mem_of_getElem? (i := 179) rfl) rfl
theorem k_420 : Cond.selects "OldBeams$Looks" ⟨"OldBeams$Looks", "countAt", "(I)I"⟩ ⟨"OldBeams$Looks", "countAt", "(I)I"⟩ ∈ tb := inT2 (List.mem_of_getElem? (i := 180) rfl) rfl
theorem k_421 : Cond.code ⟨"OldBeams$Looks", "countAt", "(I)I"⟩ prog_5_method_3_code 4 (some .int) ∈ tb := inT2 (List.mem_of_getElem? (i := 181) rfl) rfl
theorem k_422 : Cond.methodLink "OldBeams" 176 ⟨"OldBeams$Looks", "anyWeightLeft", "(III)Z"⟩ ∈ tb := inT2 (List.mem_of_getElem? (i := 182) rfl) rfl
theorem k_423 : Cond.instanceMethod ⟨"OldBeams$Looks", "anyWeightLeft", "(III)Z"⟩ ∈ tb := inT2 (List.mem_of_getElem? (i := 183) rfl) rfl
theorem k_424 : Cond.selects "OldBeams$Looks" ⟨"OldBeams$Looks", "anyWeightLeft", "(III)Z"⟩ ⟨"OldBeams$Looks", "anyWeightLeft", "(III)Z"⟩ ∈ tb := inT2 (List.mem_of_getElem? (i := 184) rfl) rfl
theorem k_425 : Cond.code ⟨"OldBeams$Looks", "anyWeightLeft", "(III)Z"⟩ prog_5_method_2_code 6 (some .boolean) ∈ tb := inT2 (List.mem_of_getElem? (i := 185) rfl) rfl
theorem k_426 : Cond.methodLink "OldBeamsLaw" 80 ⟨"OldBeams", "tool", "(III)I"⟩ ∈ tb := inT2 (List.mem_of_getElem? (i := 186) rfl) rfl
theorem k_427 : Cond.instanceMethod ⟨"OldBeams", "tool", "(III)I"⟩ ∈ tb := inT2 (List.mem_of_getElem? (i := 187) rfl) rfl
theorem k_428 : Cond.selects "OldBeams" ⟨"OldBeams", "tool", "(III)I"⟩ ⟨"OldBeams", "tool", "(III)I"⟩ ∈ tb := inT2 (List.mem_of_getElem? (i := 188) rfl) rfl
theorem k_429 : Cond.code ⟨"OldBeams", "tool", "(III)I"⟩ prog_1_method_17_code 5 (some .int) ∈ tb := inT2 (List.mem_of_getElem? (i := 189) rfl) rfl
theorem k_430 : Cond.methodLink "OldBeams" 182 ⟨"OldBeams", "isTool", "(I)Z"⟩ ∈ tb := inT2 (List.mem_of_getElem? (i := 190) rfl) rfl
theorem k_431 : Cond.static ⟨"OldBeams", "isTool", "(I)Z"⟩ ∈ tb := inT2 (List.mem_of_getElem? (i := 191) rfl) rfl
theorem k_432 : Cond.code ⟨"OldBeams", "isTool", "(I)Z"⟩ prog_1_method_40_code 1 (some .boolean) ∈ tb := inT2 (List.mem_of_getElem? (i := 192) rfl) rfl
theorem k_433 : Cond.methodLink "OldBeams" 185 ⟨"OldBeams$Looks", "isUsed", "(I)Z"⟩ ∈ tb := inT2 (List.mem_of_getElem? (i := 193) rfl) rfl
theorem k_434 : Cond.instanceMethod ⟨"OldBeams$Looks", "isUsed", "(I)Z"⟩ ∈ tb := inT2 (List.mem_of_getElem? (i := 194) rfl) rfl
theorem k_435 : Cond.selects "OldBeams$Looks" ⟨"OldBeams$Looks", "isUsed", "(I)Z"⟩ ⟨"OldBeams$Looks", "isUsed", "(I)Z"⟩ ∈ tb := inT2 (List.mem_of_getElem? (i := 195) rfl) rfl
theorem k_436 : Cond.code ⟨"OldBeams$Looks", "isUsed", "(I)Z"⟩ prog_5_method_4_code 3 (some .boolean) ∈ tb := inT2 (List.mem_of_getElem? (i := 196) rfl) rfl
theorem k_437 : Cond.methodLink "OldBeamsLaw" 84 ⟨"OldBeams", "look", "(IIII)I"⟩ ∈ tb := inT2 (List.mem_of_getElem? (i := 197) rfl) rfl
theorem k_438 : Cond.instanceMethod ⟨"OldBeams", "look", "(IIII)I"⟩ ∈ tb := inT2 (List.mem_of_getElem? (i := 198) rfl) rfl
theorem k_439 : Cond.selects "OldBeams" ⟨"OldBeams", "look", "(IIII)I"⟩ ⟨"OldBeams", "look", "(IIII)I"⟩ ∈ tb := inT2 (List.mem_of_getElem? (i := 199) rfl) rfl
theorem k_440 : Cond.code ⟨"OldBeams", "look", "(IIII)I"⟩ prog_1_method_18_code 5 (some .int) ∈ tb := inT2 (List.mem_of_getElem? (i := 200) rfl) rfl
theorem k_441 : Cond.methodLink "OldBeams" 191 ⟨"OldBeams$Looks", "lastYear", "()I"⟩ ∈ tb := inT2 (List.mem_of_getElem? (i := 201) rfl) rfl
theorem k_442 : Cond.instanceMethod ⟨"OldBeams$Looks", "lastYear", "()I"⟩ ∈ tb := inT2 (List.mem_of_getElem? (i := 202) rfl) rfl
theorem k_443 : Cond.selects "OldBeams$Looks" ⟨"OldBeams$Looks", "lastYear", "()I"⟩ ⟨"OldBeams$Looks", "lastYear", "()I"⟩ ∈ tb := inT2 (List.mem_of_getElem? (i := 203) rfl) rfl
theorem k_444 : Cond.code ⟨"OldBeams$Looks", "lastYear", "()I"⟩ prog_5_method_5_code 1 (some .int) ∈ tb := inT2 (List.mem_of_getElem? (i := 204) rfl) rfl
theorem k_445 : Cond.methodLink "OldBeams" 198 ⟨"OldBeams$Looks", "addLook", "(IIII)I"⟩ ∈ tb := inT2 (List.mem_of_getElem? (i := 205) rfl) rfl
theorem k_446 : Cond.instanceMethod ⟨"OldBeams$Looks", "addLook", "(IIII)I"⟩ ∈ tb := inT2 (List.mem_of_getElem? (i := 206) rfl) rfl
theorem k_447 : Cond.selects "OldBeams$Looks" ⟨"OldBeams$Looks", "addLook", "(IIII)I"⟩ ⟨"OldBeams$Looks", "addLook", "(IIII)I"⟩ ∈ tb := inT2 (List.mem_of_getElem? (i := 207) rfl) rfl
theorem k_448 : Cond.code ⟨"OldBeams$Looks", "addLook", "(IIII)I"⟩ prog_5_method_6_code 6 (some .int) ∈ tb := inT2 (List.mem_of_getElem? (i := 208) rfl) rfl
theorem k_449 : Cond.methodLink "OldBeamsLaw" 89 ⟨"OldBeams", "odds", "(III)J"⟩ ∈ tb := inT2 (List.mem_of_getElem? (i := 209) rfl) rfl
theorem k_450 : Cond.instanceMethod ⟨"OldBeams", "odds", "(III)J"⟩ ∈ tb := inT2 (List.mem_of_getElem? (i := 210) rfl) rfl
theorem k_451 : Cond.selects "OldBeams" ⟨"OldBeams", "odds", "(III)J"⟩ ⟨"OldBeams", "odds", "(III)J"⟩ ∈ tb := inT2 (List.mem_of_getElem? (i := 211) rfl) rfl
theorem k_452 : Cond.code ⟨"OldBeams", "odds", "(III)J"⟩ prog_1_method_19_code 4 (some .long) ∈ tb := inT2 (List.mem_of_getElem? (i := 212) rfl) rfl
theorem k_453 : Cond.constantLong "OldBeams" 201 (-900001) ∈ tb := inT2 (List.mem_of_getElem? (i := 213) rfl) rfl
theorem k_454 : Cond.constantLong "OldBeams" 203 (-900002) ∈ tb := inT2 (List.mem_of_getElem? (i := 214) rfl) rfl
theorem k_455 : Cond.methodLink "OldBeams" 205 ⟨"OldBeams$Looks", "reckonOdds", "(II)I"⟩ ∈ tb := inT2 (List.mem_of_getElem? (i := 215) rfl) rfl
theorem k_456 : Cond.instanceMethod ⟨"OldBeams$Looks", "reckonOdds", "(II)I"⟩ ∈ tb := inT2 (List.mem_of_getElem? (i := 216) rfl) rfl
theorem k_457 : Cond.selects "OldBeams$Looks" ⟨"OldBeams$Looks", "reckonOdds", "(II)I"⟩ ⟨"OldBeams$Looks", "reckonOdds", "(II)I"⟩ ∈ tb := inT2 (List.mem_of_getElem? (i := 217) rfl) rfl
theorem k_458 : Cond.code ⟨"OldBeams$Looks", "reckonOdds", "(II)I"⟩ prog_5_method_7_code 6 (some .int) ∈ tb := inT2 (List.mem_of_getElem? (i := 218) rfl) rfl
theorem k_459 : Cond.constant "OldBeams$Looks" 43 (-900009) ∈ tb := inT2 (List.mem_of_getElem? (i := 219) rfl) rfl
theorem k_460 : Cond.methodLink "OldBeams$Looks" 44 ⟨"OldBeams$Looks", "applyLook", "(II)Z"⟩ ∈ tb := inT2 (List.mem_of_getElem? (i := 220) rfl) rfl
theorem k_462 : Cond.instanceMethod ⟨"OldBeams$Looks", "applyLook", "(II)Z"⟩ ∈ tb := inT2 (List.mem_of_getElem? (i := 222) rfl) rfl
theorem k_463 : Cond.code ⟨"OldBeams$Looks", "applyLook", "(II)Z"⟩ prog_5_method_8_code 7 (some .boolean) ∈ tb := inT2 (List.mem_of_getElem? (i := 223) rfl) rfl
theorem k_464 : Cond.methodLink "OldBeams$Looks" 48 ⟨"OldBeams$Fraction", "common", "(JJ)J"⟩ ∈ tb := inT2 (List.mem_of_getElem? (i := 224) rfl) rfl
theorem k_465 : Cond.static ⟨"OldBeams$Fraction", "common", "(JJ)J"⟩ ∈ tb := inT2 (List.mem_of_getElem? (i := 225) rfl) rfl
theorem k_466 : Cond.code ⟨"OldBeams$Fraction", "common", "(JJ)J"⟩ prog_3_method_6_code 11 (some .long) ∈ tb := inT2 (List.mem_of_getElem? (i := 226) rfl) rfl
theorem k_467 : Cond.methodLink "OldBeamsLaw" 94 ⟨"OldBeams", "quarrel", "(II)I"⟩ ∈ tb := inT2 (List.mem_of_getElem? (i := 227) rfl) rfl
theorem k_468 : Cond.instanceMethod ⟨"OldBeams", "quarrel", "(II)I"⟩ ∈ tb := inT2 (List.mem_of_getElem? (i := 228) rfl) rfl
theorem k_469 : Cond.selects "OldBeams" ⟨"OldBeams", "quarrel", "(II)I"⟩ ⟨"OldBeams", "quarrel", "(II)I"⟩ ∈ tb := inT2 (List.mem_of_getElem? (i := 229) rfl) rfl
theorem k_470 : Cond.code ⟨"OldBeams", "quarrel", "(II)I"⟩ prog_1_method_20_code 3 (some .int) ∈ tb := inT2 (List.mem_of_getElem? (i := 230) rfl) rfl
theorem k_471 : Cond.methodLink "OldBeamsLaw" 98 ⟨"OldBeams", "share", "(IIIZ)I"⟩ ∈ tb := inT2 (List.mem_of_getElem? (i := 231) rfl) rfl
theorem k_472 : Cond.instanceMethod ⟨"OldBeams", "share", "(IIIZ)I"⟩ ∈ tb := inT2 (List.mem_of_getElem? (i := 232) rfl) rfl
theorem k_473 : Cond.selects "OldBeams" ⟨"OldBeams", "share", "(IIIZ)I"⟩ ⟨"OldBeams", "share", "(IIIZ)I"⟩ ∈ tb := inT2 (List.mem_of_getElem? (i := 233) rfl) rfl
theorem k_474 : Cond.code ⟨"OldBeams", "share", "(IIIZ)I"⟩ prog_1_method_21_code 5 (some .int) ∈ tb := inT2 (List.mem_of_getElem? (i := 234) rfl) rfl
theorem k_475 : Cond.methodLink "OldBeams" 212 ⟨"OldBeams", "areYears", "(II)Z"⟩ ∈ tb := inT2 (List.mem_of_getElem? (i := 235) rfl) rfl
theorem k_476 : Cond.static ⟨"OldBeams", "areYears", "(II)Z"⟩ ∈ tb := inT2 (List.mem_of_getElem? (i := 236) rfl) rfl
theorem k_477 : Cond.code ⟨"OldBeams", "areYears", "(II)Z"⟩ prog_1_method_39_code 2 (some .boolean) ∈ tb := inT2 (List.mem_of_getElem? (i := 237) rfl) rfl
theorem k_478 : Cond.methodLink "OldBeams" 215 ⟨"OldBeams$Looks", "knownShare", "(IIZ)I"⟩ ∈ tb := inT2 (List.mem_of_getElem? (i := 238) rfl) rfl
theorem k_479 : Cond.instanceMethod ⟨"OldBeams$Looks", "knownShare", "(IIZ)I"⟩ ∈ tb := inT2 (List.mem_of_getElem? (i := 239) rfl) rfl
theorem k_480 : Cond.selects "OldBeams$Looks" ⟨"OldBeams$Looks", "knownShare", "(IIZ)I"⟩ ⟨"OldBeams$Looks", "knownShare", "(IIZ)I"⟩ ∈ tb := inT3 (List.mem_of_getElem? (i := 0) rfl) rfl
theorem k_481 : Cond.code ⟨"OldBeams$Looks", "knownShare", "(IIZ)I"⟩ prog_5_method_10_code 6 (some .int) ∈ tb := inT3 (List.mem_of_getElem? (i := 1) rfl) rfl
theorem k_482 : Cond.methodLink "OldBeams$Looks" 54 ⟨"OldBeams$Looks", "reckonOdds", "(II)I"⟩ ∈ tb := inT3 (List.mem_of_getElem? (i := 2) rfl) rfl
theorem k_483 : Cond.methodLink "OldBeams" 219 ⟨"OldBeams$Frame", "shareLeft", "(III)I"⟩ ∈ tb := inT3 (List.mem_of_getElem? (i := 3) rfl) rfl
theorem k_484 : Cond.instanceMethod ⟨"OldBeams$Frame", "shareLeft", "(III)I"⟩ ∈ tb := inT3 (List.mem_of_getElem? (i := 4) rfl) rfl
theorem k_485 : Cond.selects "OldBeams$Frame" ⟨"OldBeams$Frame", "shareLeft", "(III)I"⟩ ⟨"OldBeams$Frame", "shareLeft", "(III)I"⟩ ∈ tb := inT3 (List.mem_of_getElem? (i := 5) rfl) rfl
theorem k_486 : Cond.code ⟨"OldBeams$Frame", "shareLeft", "(III)I"⟩ prog_4_method_19_code 6 (some .int) ∈ tb := inT3 (List.mem_of_getElem? (i := 6) rfl) rfl
theorem k_487 : Cond.methodLink "OldBeams$Frame" 153 ⟨"java/lang/Math", "max", "(II)I"⟩ ∈ tb := inT3 (List.mem_of_getElem? (i := 7) rfl) rfl
theorem k_488 : Cond.static ⟨"java/lang/Math", "max", "(II)I"⟩ ∈ tb := inT3 (List.mem_of_getElem? (i := 8) rfl) rfl
theorem k_489 : Cond.code ⟨"java/lang/Math", "max", "(II)I"⟩ prog_9_method_65_code 2 (some .int) ∈ tb := inT3 (List.mem_of_getElem? (i := 9) rfl) rfl
theorem k_490 : Cond.methodLink "OldBeamsLaw" 103 ⟨"OldBeams", "stands", "(IIZ)I"⟩ ∈ tb := inT3 (List.mem_of_getElem? (i := 10) rfl) rfl
theorem k_491 : Cond.instanceMethod ⟨"OldBeams", "stands", "(IIZ)I"⟩ ∈ tb := inT3 (List.mem_of_getElem? (i := 11) rfl) rfl
theorem k_492 : Cond.selects "OldBeams" ⟨"OldBeams", "stands", "(IIZ)I"⟩ ⟨"OldBeams", "stands", "(IIZ)I"⟩ ∈ tb := inT3 (List.mem_of_getElem? (i := 12) rfl) rfl
theorem k_493 : Cond.code ⟨"OldBeams", "stands", "(IIZ)I"⟩ prog_1_method_22_code 4 (some .int) ∈ tb := inT3 (List.mem_of_getElem? (i := 13) rfl) rfl
theorem k_494 : Cond.methodLink "OldBeams" 222 ⟨"OldBeams", "takeShares", "(IZ)V"⟩ ∈ tb := inT3 (List.mem_of_getElem? (i := 14) rfl) rfl
theorem k_496 : Cond.instanceMethod ⟨"OldBeams", "takeShares", "(IZ)V"⟩ ∈ tb := inT3 (List.mem_of_getElem? (i := 16) rfl) rfl
theorem k_497 : Cond.code ⟨"OldBeams", "takeShares", "(IZ)V"⟩ prog_1_method_44_code 4 none ∈ tb := inT3 (List.mem_of_getElem? (i := 17) rfl) rfl
theorem k_498 : Cond.methodLink "OldBeams" 226 ⟨"OldBeams", "standsAfter", "(I)Z"⟩ ∈ tb := inT3 (List.mem_of_getElem? (i := 18) rfl) rfl
theorem k_500 : Cond.instanceMethod ⟨"OldBeams", "standsAfter", "(I)Z"⟩ ∈ tb := inT3 (List.mem_of_getElem? (i := 20) rfl) rfl
theorem k_501 : Cond.code ⟨"OldBeams", "standsAfter", "(I)Z"⟩ prog_1_method_45_code 3 (some .boolean) ∈ tb := inT3 (List.mem_of_getElem? (i := 21) rfl) rfl
theorem k_502 : Cond.methodLink "OldBeamsLaw" 108 ⟨"OldBeams", "until", "(IZ)I"⟩ ∈ tb := inT3 (List.mem_of_getElem? (i := 22) rfl) rfl
theorem k_503 : Cond.instanceMethod ⟨"OldBeams", "until", "(IZ)I"⟩ ∈ tb := inT3 (List.mem_of_getElem? (i := 23) rfl) rfl
theorem k_504 : Cond.selects "OldBeams" ⟨"OldBeams", "until", "(IZ)I"⟩ ⟨"OldBeams", "until", "(IZ)I"⟩ ∈ tb := inT3 (List.mem_of_getElem? (i := 24) rfl) rfl
theorem k_505 : Cond.code ⟨"OldBeams", "until", "(IZ)I"⟩ prog_1_method_23_code 5 (some .int) ∈ tb := inT3 (List.mem_of_getElem? (i := 25) rfl) rfl
theorem k_506 : Cond.methodLink "OldBeamsLaw" 112 ⟨"OldBeams", "chance", "(IIZ)J"⟩ ∈ tb := inT3 (List.mem_of_getElem? (i := 26) rfl) rfl
theorem k_507 : Cond.instanceMethod ⟨"OldBeams", "chance", "(IIZ)J"⟩ ∈ tb := inT3 (List.mem_of_getElem? (i := 27) rfl) rfl
theorem k_508 : Cond.selects "OldBeams" ⟨"OldBeams", "chance", "(IIZ)J"⟩ ⟨"OldBeams", "chance", "(IIZ)J"⟩ ∈ tb := inT3 (List.mem_of_getElem? (i := 28) rfl) rfl
theorem k_509 : Cond.code ⟨"OldBeams", "chance", "(IIZ)J"⟩ prog_1_method_24_code 5 (some .long) ∈ tb := inT3 (List.mem_of_getElem? (i := 29) rfl) rfl
theorem k_510 : Cond.methodLink "OldBeams" 229 ⟨"OldBeams", "putChance", "(I)V"⟩ ∈ tb := inT3 (List.mem_of_getElem? (i := 30) rfl) rfl
theorem k_512 : Cond.instanceMethod ⟨"OldBeams", "putChance", "(I)V"⟩ ∈ tb := inT3 (List.mem_of_getElem? (i := 32) rfl) rfl
theorem k_513 : Cond.code ⟨"OldBeams", "putChance", "(I)V"⟩ prog_1_method_47_code 4 none ∈ tb := inT3 (List.mem_of_getElem? (i := 33) rfl) rfl
theorem k_514 : Cond.methodLink "OldBeams" 281 ⟨"OldBeams$Looks", "allOdds", "()J"⟩ ∈ tb := inT3 (List.mem_of_getElem? (i := 34) rfl) rfl
theorem k_515 : Cond.instanceMethod ⟨"OldBeams$Looks", "allOdds", "()J"⟩ ∈ tb := inT3 (List.mem_of_getElem? (i := 35) rfl) rfl
theorem k_516 : Cond.selects "OldBeams$Looks" ⟨"OldBeams$Looks", "allOdds", "()J"⟩ ⟨"OldBeams$Looks", "allOdds", "()J"⟩ ∈ tb := inT3 (List.mem_of_getElem? (i := 36) rfl) rfl
theorem k_517 : Cond.code ⟨"OldBeams$Looks", "allOdds", "()J"⟩ prog_5_method_9_code 4 (some .long) ∈ tb := inT3 (List.mem_of_getElem? (i := 37) rfl) rfl
theorem k_518 : Cond.methodLink "OldBeams" 285 ⟨"OldBeams", "lostOdds", "(I)J"⟩ ∈ tb := inT3 (List.mem_of_getElem? (i := 38) rfl) rfl
theorem k_520 : Cond.instanceMethod ⟨"OldBeams", "lostOdds", "(I)J"⟩ ∈ tb := inT3 (List.mem_of_getElem? (i := 40) rfl) rfl
theorem k_521 : Cond.code ⟨"OldBeams", "lostOdds", "(I)J"⟩ prog_1_method_46_code 5 (some .long) ∈ tb := inT3 (List.mem_of_getElem? (i := 41) rfl) rfl
theorem k_522 : Cond.methodLink "OldBeams" 274 ⟨"OldBeams$Fraction", "put", "(JJ)V"⟩ ∈ tb := inT3 (List.mem_of_getElem? (i := 42) rfl) rfl
theorem k_523 : Cond.instanceMethod ⟨"OldBeams$Fraction", "put", "(JJ)V"⟩ ∈ tb := inT3 (List.mem_of_getElem? (i := 43) rfl) rfl
theorem k_524 : Cond.selects "OldBeams$Fraction" ⟨"OldBeams$Fraction", "put", "(JJ)V"⟩ ⟨"OldBeams$Fraction", "put", "(JJ)V"⟩ ∈ tb := inT3 (List.mem_of_getElem? (i := 44) rfl) rfl
theorem k_525 : Cond.code ⟨"OldBeams$Fraction", "put", "(JJ)V"⟩ prog_3_method_2_code 7 none ∈ tb := inT3 (List.mem_of_getElem? (i := 45) rfl) rfl
theorem k_526 : Cond.methodLink "OldBeams$Fraction" 16 ⟨"OldBeams$Fraction", "common", "(JJ)J"⟩ ∈ tb := inT3 (List.mem_of_getElem? (i := 46) rfl) rfl
theorem k_527 : Cond.methodLink "OldBeams" 232 ⟨"OldBeams$Fraction", "part", "(Z)J"⟩ ∈ tb := inT3 (List.mem_of_getElem? (i := 47) rfl) rfl
theorem k_528 : Cond.instanceMethod ⟨"OldBeams$Fraction", "part", "(Z)J"⟩ ∈ tb := inT3 (List.mem_of_getElem? (i := 48) rfl) rfl
theorem k_529 : Cond.selects "OldBeams$Fraction" ⟨"OldBeams$Fraction", "part", "(Z)J"⟩ ⟨"OldBeams$Fraction", "part", "(Z)J"⟩ ∈ tb := inT3 (List.mem_of_getElem? (i := 49) rfl) rfl
theorem k_530 : Cond.code ⟨"OldBeams$Fraction", "part", "(Z)J"⟩ prog_3_method_4_code 2 (some .long) ∈ tb := inT3 (List.mem_of_getElem? (i := 50) rfl) rfl
theorem k_531 : Cond.methodLink "OldBeamsLaw" 117 ⟨"OldBeams", "weakest", "(I)I"⟩ ∈ tb := inT3 (List.mem_of_getElem? (i := 51) rfl) rfl
theorem k_532 : Cond.instanceMethod ⟨"OldBeams", "weakest", "(I)I"⟩ ∈ tb := inT3 (List.mem_of_getElem? (i := 52) rfl) rfl
theorem k_533 : Cond.selects "OldBeams" ⟨"OldBeams", "weakest", "(I)I"⟩ ⟨"OldBeams", "weakest", "(I)I"⟩ ∈ tb := inT3 (List.mem_of_getElem? (i := 53) rfl) rfl
theorem k_534 : Cond.code ⟨"OldBeams", "weakest", "(I)I"⟩ prog_1_method_25_code 4 (some .int) ∈ tb := inT3 (List.mem_of_getElem? (i := 54) rfl) rfl
theorem k_535 : Cond.methodLink "OldBeams" 236 ⟨"OldBeams$Fraction", "isLessThan", "(LOldBeams$Fraction;)Z"⟩ ∈ tb := inT3 (List.mem_of_getElem? (i := 55) rfl) rfl
theorem k_536 : Cond.instanceMethod ⟨"OldBeams$Fraction", "isLessThan", "(LOldBeams$Fraction;)Z"⟩ ∈ tb := inT3 (List.mem_of_getElem? (i := 56) rfl) rfl
theorem k_537 : Cond.selects "OldBeams$Fraction" ⟨"OldBeams$Fraction", "isLessThan", "(LOldBeams$Fraction;)Z"⟩ ⟨"OldBeams$Fraction", "isLessThan", "(LOldBeams$Fraction;)Z"⟩ ∈ tb := inT3 (List.mem_of_getElem? (i := 57) rfl) rfl
theorem k_538 : Cond.code ⟨"OldBeams$Fraction", "isLessThan", "(LOldBeams$Fraction;)Z"⟩ prog_3_method_5_code 16 (some .boolean) ∈ tb := inT3 (List.mem_of_getElem? (i := 58) rfl) rfl
theorem k_539 : Cond.methodLink "OldBeams" 240 ⟨"OldBeams$Fraction", "copy", "(LOldBeams$Fraction;)V"⟩ ∈ tb := inT3 (List.mem_of_getElem? (i := 59) rfl) rfl
theorem k_540 : Cond.instanceMethod ⟨"OldBeams$Fraction", "copy", "(LOldBeams$Fraction;)V"⟩ ∈ tb := inT3 (List.mem_of_getElem? (i := 60) rfl) rfl
theorem k_541 : Cond.selects "OldBeams$Fraction" ⟨"OldBeams$Fraction", "copy", "(LOldBeams$Fraction;)V"⟩ ⟨"OldBeams$Fraction", "copy", "(LOldBeams$Fraction;)V"⟩ ∈ tb := inT3 (List.mem_of_getElem? (i := 61) rfl) rfl
theorem k_542 : Cond.code ⟨"OldBeams$Fraction", "copy", "(LOldBeams$Fraction;)V"⟩ prog_3_method_3_code 2 none ∈ tb := inT3 (List.mem_of_getElem? (i := 62) rfl) rfl
theorem k_543 : Cond.methodLink "OldBeamsLaw" 121 ⟨"OldBeams", "chain", "(II)I"⟩ ∈ tb := inT3 (List.mem_of_getElem? (i := 63) rfl) rfl
theorem k_544 : Cond.instanceMethod ⟨"OldBeams", "chain", "(II)I"⟩ ∈ tb := inT3 (List.mem_of_getElem? (i := 64) rfl) rfl
theorem k_545 : Cond.selects "OldBeams" ⟨"OldBeams", "chain", "(II)I"⟩ ⟨"OldBeams", "chain", "(II)I"⟩ ∈ tb := inT3 (List.mem_of_getElem? (i := 65) rfl) rfl
theorem k_546 : Cond.code ⟨"OldBeams", "chain", "(II)I"⟩ prog_1_method_26_code 4 (some .int) ∈ tb := inT3 (List.mem_of_getElem? (i := 66) rfl) rfl
theorem k_547 : Cond.methodLink "OldBeams" 244 ⟨"OldBeams$Frame", "tryFall", "(I[I[I)I"⟩ ∈ tb := inT3 (List.mem_of_getElem? (i := 67) rfl) rfl
theorem k_548 : Cond.instanceMethod ⟨"OldBeams$Frame", "tryFall", "(I[I[I)I"⟩ ∈ tb := inT3 (List.mem_of_getElem? (i := 68) rfl) rfl
theorem k_549 : Cond.selects "OldBeams$Frame" ⟨"OldBeams$Frame", "tryFall", "(I[I[I)I"⟩ ⟨"OldBeams$Frame", "tryFall", "(I[I[I)I"⟩ ∈ tb := inT3 (List.mem_of_getElem? (i := 69) rfl) rfl
theorem k_550 : Cond.code ⟨"OldBeams$Frame", "tryFall", "(I[I[I)I"⟩ prog_4_method_20_code 7 (some .int) ∈ tb := inT3 (List.mem_of_getElem? (i := 70) rfl) rfl
theorem k_551 : Cond.methodLink "OldBeams$Frame" 162 ⟨"OldBeams$Frame", "firstNotHolding", "(I[I)I"⟩ ∈ tb := inT3 (List.mem_of_getElem? (i := 71) rfl) rfl
theorem k_553 : Cond.instanceMethod ⟨"OldBeams$Frame", "firstNotHolding", "(I[I)I"⟩ ∈ tb := inT3 (List.mem_of_getElem? (i := 73) rfl) rfl
theorem k_554 : Cond.code ⟨"OldBeams$Frame", "firstNotHolding", "(I[I)I"⟩ prog_4_method_21_code 4 (some .int) ∈ tb := inT3 (List.mem_of_getElem? (i := 74) rfl) rfl
theorem k_555 : Cond.methodLink "OldBeams$Frame" 166 ⟨"OldBeams$Frame", "holdsWith", "(II)Z"⟩ ∈ tb := inT3 (List.mem_of_getElem? (i := 75) rfl) rfl
theorem k_556 : Cond.methodLink "OldBeamsLaw" 125 ⟨"OldBeams", "chainAt", "(III)I"⟩ ∈ tb := inT3 (List.mem_of_getElem? (i := 76) rfl) rfl
theorem k_557 : Cond.instanceMethod ⟨"OldBeams", "chainAt", "(III)I"⟩ ∈ tb := inT3 (List.mem_of_getElem? (i := 77) rfl) rfl
theorem k_558 : Cond.selects "OldBeams" ⟨"OldBeams", "chainAt", "(III)I"⟩ ⟨"OldBeams", "chainAt", "(III)I"⟩ ∈ tb := inT3 (List.mem_of_getElem? (i := 78) rfl) rfl
theorem k_559 : Cond.code ⟨"OldBeams", "chainAt", "(III)I"⟩ prog_1_method_27_code 6 (some .int) ∈ tb := inT3 (List.mem_of_getElem? (i := 79) rfl) rfl
theorem k_560 : Cond.methodLink "OldBeamsLaw" 129 ⟨"OldBeams", "prop", "(III)I"⟩ ∈ tb := inT3 (List.mem_of_getElem? (i := 80) rfl) rfl
theorem k_561 : Cond.instanceMethod ⟨"OldBeams", "prop", "(III)I"⟩ ∈ tb := inT3 (List.mem_of_getElem? (i := 81) rfl) rfl
theorem k_562 : Cond.selects "OldBeams" ⟨"OldBeams", "prop", "(III)I"⟩ ⟨"OldBeams", "prop", "(III)I"⟩ ∈ tb := inT3 (List.mem_of_getElem? (i := 82) rfl) rfl
theorem k_563 : Cond.code ⟨"OldBeams", "prop", "(III)I"⟩ prog_1_method_28_code 4 (some .int) ∈ tb := inT3 (List.mem_of_getElem? (i := 83) rfl) rfl
theorem k_564 : Cond.methodLink "OldBeams" 254 ⟨"OldBeams$Frame", "addProp", "(III)I"⟩ ∈ tb := inT3 (List.mem_of_getElem? (i := 84) rfl) rfl
theorem k_565 : Cond.instanceMethod ⟨"OldBeams$Frame", "addProp", "(III)I"⟩ ∈ tb := inT3 (List.mem_of_getElem? (i := 85) rfl) rfl
theorem k_566 : Cond.selects "OldBeams$Frame" ⟨"OldBeams$Frame", "addProp", "(III)I"⟩ ⟨"OldBeams$Frame", "addProp", "(III)I"⟩ ∈ tb := inT3 (List.mem_of_getElem? (i := 86) rfl) rfl
theorem k_567 : Cond.code ⟨"OldBeams$Frame", "addProp", "(III)I"⟩ prog_4_method_8_code 5 (some .int) ∈ tb := inT3 (List.mem_of_getElem? (i := 87) rfl) rfl
theorem k_568 : Cond.methodLink "OldBeamsLaw" 133 ⟨"OldBeams", "set", "(IZ)I"⟩ ∈ tb := inT3 (List.mem_of_getElem? (i := 88) rfl) rfl
theorem k_569 : Cond.instanceMethod ⟨"OldBeams", "set", "(IZ)I"⟩ ∈ tb := inT3 (List.mem_of_getElem? (i := 89) rfl) rfl
theorem k_570 : Cond.selects "OldBeams" ⟨"OldBeams", "set", "(IZ)I"⟩ ⟨"OldBeams", "set", "(IZ)I"⟩ ∈ tb := inT3 (List.mem_of_getElem? (i := 90) rfl) rfl
theorem k_571 : Cond.code ⟨"OldBeams", "set", "(IZ)I"⟩ prog_1_method_29_code 5 (some .int) ∈ tb := inT3 (List.mem_of_getElem? (i := 91) rfl) rfl
theorem k_572 : Cond.methodLink "OldBeams" 257 ⟨"OldBeams$Frame", "propBit", "(I)I"⟩ ∈ tb := inT3 (List.mem_of_getElem? (i := 92) rfl) rfl
theorem k_573 : Cond.methodLink "OldBeamsLaw" 137 ⟨"OldBeams", "fewest", "(I)I"⟩ ∈ tb := inT3 (List.mem_of_getElem? (i := 93) rfl) rfl
theorem k_574 : Cond.instanceMethod ⟨"OldBeams", "fewest", "(I)I"⟩ ∈ tb := inT3 (List.mem_of_getElem? (i := 94) rfl) rfl
theorem k_575 : Cond.selects "OldBeams" ⟨"OldBeams", "fewest", "(I)I"⟩ ⟨"OldBeams", "fewest", "(I)I"⟩ ∈ tb := inT3 (List.mem_of_getElem? (i := 95) rfl) rfl
theorem k_576 : Cond.code ⟨"OldBeams", "fewest", "(I)I"⟩ prog_1_method_30_code 3 (some .int) ∈ tb := inT3 (List.mem_of_getElem? (i := 96) rfl) rfl
theorem k_577 : Cond.methodLink "OldBeams" 263 ⟨"OldBeams$Frame", "fewestProps", "([I)I"⟩ ∈ tb := inT3 (List.mem_of_getElem? (i := 97) rfl) rfl
theorem k_578 : Cond.instanceMethod ⟨"OldBeams$Frame", "fewestProps", "([I)I"⟩ ∈ tb := inT3 (List.mem_of_getElem? (i := 98) rfl) rfl
theorem k_579 : Cond.selects "OldBeams$Frame" ⟨"OldBeams$Frame", "fewestProps", "([I)I"⟩ ⟨"OldBeams$Frame", "fewestProps", "([I)I"⟩ ∈ tb := inT3 (List.mem_of_getElem? (i := 99) rfl) rfl
theorem k_580 : Cond.code ⟨"OldBeams$Frame", "fewestProps", "([I)I"⟩ prog_4_method_22_code 6 (some .int) ∈ tb := inT3 (List.mem_of_getElem? (i := 100) rfl) rfl
theorem k_581 : Cond.methodLink "OldBeams$Frame" 169 ⟨"java/lang/Integer", "bitCount", "(I)I"⟩ ∈ tb := inT3 (List.mem_of_getElem? (i := 101) rfl) rfl
theorem k_582 : Cond.methodLink "OldBeams$Frame" 174 ⟨"OldBeams$Frame", "standsWith", "(I[I)Z"⟩ ∈ tb := inT3 (List.mem_of_getElem? (i := 102) rfl) rfl
theorem k_584 : Cond.instanceMethod ⟨"OldBeams$Frame", "standsWith", "(I[I)Z"⟩ ∈ tb := inT3 (List.mem_of_getElem? (i := 104) rfl) rfl
theorem k_585 : Cond.code ⟨"OldBeams$Frame", "standsWith", "(I[I)Z"⟩ prog_4_method_23_code 4 (some .boolean) ∈ tb := inT3 (List.mem_of_getElem? (i := 105) rfl) rfl
theorem k_586 : Cond.methodLink "OldBeamsLaw" 141 ⟨"OldBeams", "needed", "(II)I"⟩ ∈ tb := inT3 (List.mem_of_getElem? (i := 106) rfl) rfl
theorem k_587 : Cond.instanceMethod ⟨"OldBeams", "needed", "(II)I"⟩ ∈ tb := inT3 (List.mem_of_getElem? (i := 107) rfl) rfl
theorem k_588 : Cond.selects "OldBeams" ⟨"OldBeams", "needed", "(II)I"⟩ ⟨"OldBeams", "needed", "(II)I"⟩ ∈ tb := inT3 (List.mem_of_getElem? (i := 108) rfl) rfl
theorem k_589 : Cond.code ⟨"OldBeams", "needed", "(II)I"⟩ prog_1_method_31_code 6 (some .int) ∈ tb := inT3 (List.mem_of_getElem? (i := 109) rfl) rfl
theorem k_590 : Cond.methodLink "OldBeamsLaw" 145 ⟨"OldBeams", "price", "(II)I"⟩ ∈ tb := inT3 (List.mem_of_getElem? (i := 110) rfl) rfl
theorem k_591 : Cond.instanceMethod ⟨"OldBeams", "price", "(II)I"⟩ ∈ tb := inT3 (List.mem_of_getElem? (i := 111) rfl) rfl
theorem k_592 : Cond.selects "OldBeams" ⟨"OldBeams", "price", "(II)I"⟩ ⟨"OldBeams", "price", "(II)I"⟩ ∈ tb := inT3 (List.mem_of_getElem? (i := 112) rfl) rfl
theorem k_593 : Cond.code ⟨"OldBeams", "price", "(II)I"⟩ prog_1_method_32_code 4 (some .int) ∈ tb := inT3 (List.mem_of_getElem? (i := 113) rfl) rfl
theorem k_594 : Cond.methodLink "OldBeamsLaw" 149 ⟨"OldBeams", "mean", "(IIZ)J"⟩ ∈ tb := inT3 (List.mem_of_getElem? (i := 114) rfl) rfl
theorem k_595 : Cond.instanceMethod ⟨"OldBeams", "mean", "(IIZ)J"⟩ ∈ tb := inT3 (List.mem_of_getElem? (i := 115) rfl) rfl
theorem k_596 : Cond.selects "OldBeams" ⟨"OldBeams", "mean", "(IIZ)J"⟩ ⟨"OldBeams", "mean", "(IIZ)J"⟩ ∈ tb := inT3 (List.mem_of_getElem? (i := 116) rfl) rfl
theorem k_597 : Cond.code ⟨"OldBeams", "mean", "(IIZ)J"⟩ prog_1_method_33_code 5 (some .long) ∈ tb := inT3 (List.mem_of_getElem? (i := 117) rfl) rfl
theorem k_598 : Cond.methodLink "OldBeams" 267 ⟨"OldBeams", "putMean", "(I)V"⟩ ∈ tb := inT3 (List.mem_of_getElem? (i := 118) rfl) rfl
theorem k_600 : Cond.instanceMethod ⟨"OldBeams", "putMean", "(I)V"⟩ ∈ tb := inT3 (List.mem_of_getElem? (i := 120) rfl) rfl
theorem k_601 : Cond.code ⟨"OldBeams", "putMean", "(I)V"⟩ prog_1_method_48_code 4 none ∈ tb := inT3 (List.mem_of_getElem? (i := 121) rfl) rfl
theorem k_602 : Cond.methodLink "OldBeams" 288 ⟨"OldBeams", "cost", "(JJ)J"⟩ ∈ tb := inT3 (List.mem_of_getElem? (i := 122) rfl) rfl
theorem k_604 : Cond.instanceMethod ⟨"OldBeams", "cost", "(JJ)J"⟩ ∈ tb := inT3 (List.mem_of_getElem? (i := 124) rfl) rfl
theorem k_605 : Cond.code ⟨"OldBeams", "cost", "(JJ)J"⟩ prog_1_method_50_code 5 (some .long) ∈ tb := inT3 (List.mem_of_getElem? (i := 125) rfl) rfl
theorem k_606 : Cond.methodLink "OldBeams" 294 ⟨"java/lang/Math", "min", "(JJ)J"⟩ ∈ tb := inT3 (List.mem_of_getElem? (i := 126) rfl) rfl
theorem k_607 : Cond.static ⟨"java/lang/Math", "min", "(JJ)J"⟩ ∈ tb := inT3 (List.mem_of_getElem? (i := 127) rfl) rfl
theorem k_608 : Cond.code ⟨"java/lang/Math", "min", "(JJ)J"⟩ prog_9_method_70_code 4 (some .long) ∈ tb := inT3 (List.mem_of_getElem? (i := 128) rfl) rfl
theorem k_609 : Cond.methodLink "OldBeamsLaw" 153 ⟨"OldBeams", "worth", "(IIIZ)J"⟩ ∈ tb := inT3 (List.mem_of_getElem? (i := 129) rfl) rfl
theorem k_610 : Cond.instanceMethod ⟨"OldBeams", "worth", "(IIIZ)J"⟩ ∈ tb := inT3 (List.mem_of_getElem? (i := 130) rfl) rfl
theorem k_611 : Cond.selects "OldBeams" ⟨"OldBeams", "worth", "(IIIZ)J"⟩ ⟨"OldBeams", "worth", "(IIIZ)J"⟩ ∈ tb := inT3 (List.mem_of_getElem? (i := 131) rfl) rfl
theorem k_612 : Cond.code ⟨"OldBeams", "worth", "(IIIZ)J"⟩ prog_1_method_34_code 6 (some .long) ∈ tb := inT3 (List.mem_of_getElem? (i := 132) rfl) rfl
theorem k_613 : Cond.methodLink "OldBeams" 270 ⟨"OldBeams", "putWorth", "(II)V"⟩ ∈ tb := inT3 (List.mem_of_getElem? (i := 133) rfl) rfl
theorem k_615 : Cond.instanceMethod ⟨"OldBeams", "putWorth", "(II)V"⟩ ∈ tb := inT3 (List.mem_of_getElem? (i := 135) rfl) rfl
theorem k_616 : Cond.code ⟨"OldBeams", "putWorth", "(II)V"⟩ prog_1_method_49_code 15 none ∈ tb := inT3 (List.mem_of_getElem? (i := 136) rfl) rfl
theorem k_617 : Cond.constantLong "OldBeams" 292 9 ∈ tb := inT3 (List.mem_of_getElem? (i := 137) rfl) rfl
theorem k_618 : Cond.methodLink "OldBeamsLaw" 158 ⟨"OldBeams", "bestLook", "(I)I"⟩ ∈ tb := inT3 (List.mem_of_getElem? (i := 138) rfl) rfl
theorem k_619 : Cond.instanceMethod ⟨"OldBeams", "bestLook", "(I)I"⟩ ∈ tb := inT3 (List.mem_of_getElem? (i := 139) rfl) rfl
theorem k_620 : Cond.selects "OldBeams" ⟨"OldBeams", "bestLook", "(I)I"⟩ ⟨"OldBeams", "bestLook", "(I)I"⟩ ∈ tb := inT3 (List.mem_of_getElem? (i := 140) rfl) rfl
theorem k_621 : Cond.code ⟨"OldBeams", "bestLook", "(I)I"⟩ prog_1_method_35_code 5 (some .int) ∈ tb := inT3 (List.mem_of_getElem? (i := 141) rfl) rfl
theorem k_622 : Cond.methodLink "OldBeamsLaw" 162 ⟨"OldBeams", "count", "(I)I"⟩ ∈ tb := inT3 (List.mem_of_getElem? (i := 142) rfl) rfl
theorem k_623 : Cond.instanceMethod ⟨"OldBeams", "count", "(I)I"⟩ ∈ tb := inT3 (List.mem_of_getElem? (i := 143) rfl) rfl
theorem k_624 : Cond.selects "OldBeams" ⟨"OldBeams", "count", "(I)I"⟩ ⟨"OldBeams", "count", "(I)I"⟩ ∈ tb := inT3 (List.mem_of_getElem? (i := 144) rfl) rfl
theorem k_625 : Cond.code ⟨"OldBeams", "count", "(I)I"⟩ prog_1_method_36_code 2 (some .int) ∈ tb := inT3 (List.mem_of_getElem? (i := 145) rfl) rfl
theorem k_626 : Cond.methodLink "OldBeams" 278 ⟨"OldBeams$Frame", "loadsOn", "()I"⟩ ∈ tb := inT3 (List.mem_of_getElem? (i := 146) rfl) rfl
theorem k_627 : Cond.instanceMethod ⟨"OldBeams$Frame", "loadsOn", "()I"⟩ ∈ tb := inT3 (List.mem_of_getElem? (i := 147) rfl) rfl
theorem k_628 : Cond.selects "OldBeams$Frame" ⟨"OldBeams$Frame", "loadsOn", "()I"⟩ ⟨"OldBeams$Frame", "loadsOn", "()I"⟩ ∈ tb := inT3 (List.mem_of_getElem? (i := 148) rfl) rfl
theorem k_629 : Cond.code ⟨"OldBeams$Frame", "loadsOn", "()I"⟩ prog_4_method_7_code 3 (some .int) ∈ tb := inT3 (List.mem_of_getElem? (i := 149) rfl) rfl
theorem k_630 : Cond.classLink "OldBeamsLaw" 10 "OldBeamsModel" ∈ tb := inT3 (List.mem_of_getElem? (i := 150) rfl) rfl
theorem k_631 : Cond.instantiable "OldBeamsModel" 45 ∈ tb := inT3 (List.mem_of_getElem? (i := 151) rfl) rfl
theorem k_632 : Cond.methodLink "OldBeamsLaw" 12 ⟨"OldBeamsModel", "<init>", "()V"⟩ ∈ tb := inT3 (List.mem_of_getElem? (i := 152) rfl) rfl
theorem k_633 : Cond.instanceMethod ⟨"OldBeamsModel", "<init>", "()V"⟩ ∈ tb := inT3 (List.mem_of_getElem? (i := 153) rfl) rfl
theorem k_634 : Cond.code ⟨"OldBeamsModel", "<init>", "()V"⟩ prog_7_method_1_code 2 none ∈ tb := inT3 (List.mem_of_getElem? (i := 154) rfl) rfl
theorem k_635 : Cond.methodLink "OldBeamsModel" 1 ⟨"java/lang/Object", "<init>", "()V"⟩ ∈ tb := inT3 (List.mem_of_getElem? (i := 155) rfl) rfl
theorem k_636 : Cond.fieldLink "OldBeamsModel" 7 "OldBeamsModel" "grade" "[I" ∈ tb := inT3 (List.mem_of_getElem? (i := 156) rfl) rfl
theorem k_637 : Cond.fieldLink "OldBeamsModel" 13 "OldBeamsModel" "rot" "[I" ∈ tb := inT3 (List.mem_of_getElem? (i := 157) rfl) rfl
theorem k_638 : Cond.fieldLink "OldBeamsModel" 144 "OldBeamsModel" "beams" "I" ∈ tb := inT3 (List.mem_of_getElem? (i := 158) rfl) rfl
theorem k_639 : Cond.fieldLink "OldBeamsModel" 16 "OldBeamsModel" "kind" "[I" ∈ tb := inT3 (List.mem_of_getElem? (i := 159) rfl) rfl
theorem k_640 : Cond.fieldLink "OldBeamsModel" 19 "OldBeamsModel" "length" "[I" ∈ tb := inT3 (List.mem_of_getElem? (i := 160) rfl) rfl
theorem k_641 : Cond.fieldLink "OldBeamsModel" 22 "OldBeamsModel" "width" "[I" ∈ tb := inT3 (List.mem_of_getElem? (i := 161) rfl) rfl
theorem k_642 : Cond.fieldLink "OldBeamsModel" 25 "OldBeamsModel" "height" "[I" ∈ tb := inT3 (List.mem_of_getElem? (i := 162) rfl) rfl
theorem k_643 : Cond.fieldLink "OldBeamsModel" 28 "OldBeamsModel" "isWet" "[Z" ∈ tb := inT3 (List.mem_of_getElem? (i := 163) rfl) rfl
theorem k_644 : Cond.fieldLink "OldBeamsModel" 32 "OldBeamsModel" "hasFallen" "[Z" ∈ tb := inT3 (List.mem_of_getElem? (i := 164) rfl) rfl
theorem k_645 : Cond.fieldLink "OldBeamsModel" 35 "OldBeamsModel" "seatAt" "[I" ∈ tb := inT3 (List.mem_of_getElem? (i := 165) rfl) rfl
theorem k_646 : Cond.fieldLink "OldBeamsModel" 38 "OldBeamsModel" "seatOn" "[I" ∈ tb := inT3 (List.mem_of_getElem? (i := 166) rfl) rfl
theorem k_647 : Cond.fieldLink "OldBeamsModel" 41 "OldBeamsModel" "seatWhere" "[I" ∈ tb := inT3 (List.mem_of_getElem? (i := 167) rfl) rfl
theorem k_648 : Cond.fieldLink "OldBeamsModel" 170 "OldBeamsModel" "loads" "I" ∈ tb := inT3 (List.mem_of_getElem? (i := 168) rfl) rfl
theorem k_649 : Cond.fieldLink "OldBeamsModel" 44 "OldBeamsModel" "loadBeam" "[I" ∈ tb := inT3 (List.mem_of_getElem? (i := 169) rfl) rfl
theorem k_650 : Cond.fieldLink "OldBeamsModel" 47 "OldBeamsModel" "loadPlace" "[I" ∈ tb := inT3 (List.mem_of_getElem? (i := 170) rfl) rfl
theorem k_651 : Cond.fieldLink "OldBeamsModel" 50 "OldBeamsModel" "loadWeight" "[I" ∈ tb := inT3 (List.mem_of_getElem? (i := 171) rfl) rfl
theorem k_652 : Cond.fieldLink "OldBeamsModel" 53 "OldBeamsModel" "isOff" "[Z" ∈ tb := inT3 (List.mem_of_getElem? (i := 172) rfl) rfl
theorem k_653 : Cond.fieldLink "OldBeamsModel" 173 "OldBeamsModel" "props" "I" ∈ tb := inT3 (List.mem_of_getElem? (i := 173) rfl) rfl
theorem k_654 : Cond.fieldLink "OldBeamsModel" 56 "OldBeamsModel" "propBeam" "[I" ∈ tb := inT3 (List.mem_of_getElem? (i := 174) rfl) rfl
theorem k_655 : Cond.fieldLink "OldBeamsModel" 59 "OldBeamsModel" "propPlace" "[I" ∈ tb := inT3 (List.mem_of_getElem? (i := 175) rfl) rfl
theorem k_656 : Cond.fieldLink "OldBeamsModel" 62 "OldBeamsModel" "propPush" "[I" ∈ tb := inT3 (List.mem_of_getElem? (i := 176) rfl) rfl
theorem k_657 : Cond.fieldLink "OldBeamsModel" 65 "OldBeamsModel" "isSet" "[Z" ∈ tb := inT3 (List.mem_of_getElem? (i := 177) rfl) rfl
theorem k_658 : Cond.fieldLink "OldBeamsModel" 68 "OldBeamsModel" "tryFallen" "[Z" ∈ tb := inT3 (List.mem_of_getElem? (i := 178) rfl) rfl
theorem k_659 : Cond.fieldLink "OldBeamsModel" 71 "OldBeamsModel" "trySet" "[Z" ∈ tb := inT3 (List.mem_of_getElem? (i := 179) rfl) rfl
theorem k_660 : Cond.fieldLink "OldBeamsModel" 74 "OldBeamsModel" "isDown" "[Z" ∈ tb := inT3 (List.mem_of_getElem? (i := 180) rfl) rfl
theorem k_661 : Cond.fieldLink "OldBeamsModel" 77 "OldBeamsModel" "forces" "[J" ∈ tb := inT3 (List.mem_of_getElem? (i := 181) rfl) rfl
theorem k_662 : Cond.fieldLink "OldBeamsModel" 81 "OldBeamsModel" "push" "[J" ∈ tb := inT3 (List.mem_of_getElem? (i := 182) rfl) rfl
theorem k_663 : Cond.fieldLink "OldBeamsModel" 84 "OldBeamsModel" "great" "[J" ∈ tb := inT3 (List.mem_of_getElem? (i := 183) rfl) rfl
theorem k_664 : Cond.fieldLink "OldBeamsModel" 87 "OldBeamsModel" "greatPlace" "[I" ∈ tb := inT3 (List.mem_of_getElem? (i := 184) rfl) rfl
theorem k_665 : Cond.fieldLink "OldBeamsModel" 90 "OldBeamsModel" "weight" "[I" ∈ tb := inT3 (List.mem_of_getElem? (i := 185) rfl) rfl
theorem k_666 : Cond.fieldLink "OldBeamsModel" 93 "OldBeamsModel" "often" "[I" ∈ tb := inT3 (List.mem_of_getElem? (i := 186) rfl) rfl
theorem k_667 : Cond.fieldLink "OldBeamsModel" 214 "OldBeamsModel" "looks" "I" ∈ tb := inT3 (List.mem_of_getElem? (i := 187) rfl) rfl
theorem k_668 : Cond.fieldLink "OldBeamsModel" 96 "OldBeamsModel" "lookBeam" "[I" ∈ tb := inT3 (List.mem_of_getElem? (i := 188) rfl) rfl
theorem k_669 : Cond.fieldLink "OldBeamsModel" 99 "OldBeamsModel" "lookTool" "[I" ∈ tb := inT3 (List.mem_of_getElem? (i := 189) rfl) rfl
theorem k_670 : Cond.fieldLink "OldBeamsModel" 102 "OldBeamsModel" "lookOutcome" "[I" ∈ tb := inT3 (List.mem_of_getElem? (i := 190) rfl) rfl
theorem k_671 : Cond.fieldLink "OldBeamsModel" 105 "OldBeamsModel" "lookYear" "[I" ∈ tb := inT3 (List.mem_of_getElem? (i := 191) rfl) rfl
theorem k_672 : Cond.fieldLink "OldBeamsModel" 108 "OldBeamsModel" "odds" "[J" ∈ tb := inT3 (List.mem_of_getElem? (i := 192) rfl) rfl
theorem k_673 : Cond.fieldLink "OldBeamsModel" 111 "OldBeamsModel" "next" "[J" ∈ tb := inT3 (List.mem_of_getElem? (i := 193) rfl) rfl
theorem k_674 : Cond.fieldLink "OldBeamsModel" 224 "OldBeamsModel" "firstQuarrel" "I" ∈ tb := inT3 (List.mem_of_getElem? (i := 194) rfl) rfl
theorem k_675 : Cond.fieldLink "OldBeamsModel" 253 "OldBeamsModel" "holdSum" "J" ∈ tb := inT3 (List.mem_of_getElem? (i := 195) rfl) rfl
theorem k_676 : Cond.fieldLink "OldBeamsModel" 257 "OldBeamsModel" "allSum" "J" ∈ tb := inT3 (List.mem_of_getElem? (i := 196) rfl) rfl
theorem k_677 : Cond.fieldLink "OldBeamsModel" 114 "OldBeamsModel" "fallen" "[I" ∈ tb := inT3 (List.mem_of_getElem? (i := 197) rfl) rfl
theorem k_678 : Cond.fieldLink "OldBeamsModel" 271 "OldBeamsModel" "fallMany" "I" ∈ tb := inT3 (List.mem_of_getElem? (i := 198) rfl) rfl
theorem k_679 : Cond.fieldLink "OldBeamsModel" 117 "OldBeamsModel" "mend" "I" ∈ tb := inT3 (List.mem_of_getElem? (i := 199) rfl) rfl
theorem k_680 : Cond.fieldLink "OldBeamsModel" 121 "OldBeamsModel" "loss" "I" ∈ tb := inT3 (List.mem_of_getElem? (i := 200) rfl) rfl
theorem k_772 : Cond.methodLink "OldBeamsLaw" 17 ⟨"OldBeamsModel", "kind", "(III)I"⟩ ∈ tb := inT4 (List.mem_of_getElem? (i := 52) rfl) rfl
theorem k_773 : Cond.instanceMethod ⟨"OldBeamsModel", "kind", "(III)I"⟩ ∈ tb := inT4 (List.mem_of_getElem? (i := 53) rfl) rfl
theorem k_774 : Cond.selects "OldBeamsModel" ⟨"OldBeamsModel", "kind", "(III)I"⟩ ⟨"OldBeamsModel", "kind", "(III)I"⟩ ∈ tb := inT4 (List.mem_of_getElem? (i := 54) rfl) rfl
theorem k_775 : Cond.code ⟨"OldBeamsModel", "kind", "(III)I"⟩ prog_7_method_8_code 5 (some .int) ∈ tb := inT4 (List.mem_of_getElem? (i := 55) rfl) rfl
theorem k_776 : Cond.constantLong "OldBeamsModel" 134 3 ∈ tb := inT4 (List.mem_of_getElem? (i := 56) rfl) rfl
theorem k_777 : Cond.methodLink "OldBeamsModel" 126 ⟨"OldBeamsModel", "in", "(JJJ)Z"⟩ ∈ tb := inT4 (List.mem_of_getElem? (i := 57) rfl) rfl
theorem k_778 : Cond.static ⟨"OldBeamsModel", "in", "(JJJ)Z"⟩ ∈ tb := inT4 (List.mem_of_getElem? (i := 58) rfl) rfl
theorem k_779 : Cond.code ⟨"OldBeamsModel", "in", "(JJJ)Z"⟩ prog_7_method_3_code 6 (some .boolean) ∈ tb := inT4 (List.mem_of_getElem? (i := 59) rfl) rfl
theorem k_780 : Cond.constant "OldBeamsModel" 136 (-900001) ∈ tb := inT4 (List.mem_of_getElem? (i := 60) rfl) rfl
theorem k_781 : Cond.constantLong "OldBeamsModel" 137 999 ∈ tb := inT4 (List.mem_of_getElem? (i := 61) rfl) rfl
theorem k_782 : Cond.constantLong "OldBeamsModel" 139 2 ∈ tb := inT4 (List.mem_of_getElem? (i := 62) rfl) rfl
theorem k_783 : Cond.constantLong "OldBeamsModel" 141 10 ∈ tb := inT4 (List.mem_of_getElem? (i := 63) rfl) rfl
theorem k_784 : Cond.constant "OldBeamsModel" 143 (-900002) ∈ tb := inT4 (List.mem_of_getElem? (i := 64) rfl) rfl
theorem k_785 : Cond.methodLink "OldBeamsLaw" 22 ⟨"OldBeamsModel", "beam", "(IIIII)I"⟩ ∈ tb := inT4 (List.mem_of_getElem? (i := 65) rfl) rfl
theorem k_786 : Cond.instanceMethod ⟨"OldBeamsModel", "beam", "(IIIII)I"⟩ ∈ tb := inT4 (List.mem_of_getElem? (i := 66) rfl) rfl
theorem k_787 : Cond.selects "OldBeamsModel" ⟨"OldBeamsModel", "beam", "(IIIII)I"⟩ ⟨"OldBeamsModel", "beam", "(IIIII)I"⟩ ∈ tb := inT4 (List.mem_of_getElem? (i := 67) rfl) rfl
theorem k_788 : Cond.code ⟨"OldBeamsModel", "beam", "(IIIII)I"⟩ prog_7_method_10_code 7 (some .int) ∈ tb := inT4 (List.mem_of_getElem? (i := 68) rfl) rfl
theorem k_789 : Cond.constantLong "OldBeamsModel" 147 60 ∈ tb := inT4 (List.mem_of_getElem? (i := 69) rfl) rfl
theorem k_790 : Cond.constantLong "OldBeamsModel" 149 40 ∈ tb := inT4 (List.mem_of_getElem? (i := 70) rfl) rfl
theorem k_791 : Cond.methodLink "OldBeamsModel" 151 ⟨"OldBeamsModel", "isYear", "(I)Z"⟩ ∈ tb := inT4 (List.mem_of_getElem? (i := 71) rfl) rfl
theorem k_792 : Cond.static ⟨"OldBeamsModel", "isYear", "(I)Z"⟩ ∈ tb := inT4 (List.mem_of_getElem? (i := 72) rfl) rfl
theorem k_793 : Cond.code ⟨"OldBeamsModel", "isYear", "(I)Z"⟩ prog_7_method_4_code 1 (some .boolean) ∈ tb := inT4 (List.mem_of_getElem? (i := 73) rfl) rfl
theorem k_794 : Cond.constantLong "OldBeamsModel" 124 500 ∈ tb := inT4 (List.mem_of_getElem? (i := 74) rfl) rfl
theorem k_795 : Cond.constant "OldBeamsModel" 155 (-900004) ∈ tb := inT4 (List.mem_of_getElem? (i := 75) rfl) rfl
theorem k_796 : Cond.constant "OldBeamsModel" 156 (-900009) ∈ tb := inT4 (List.mem_of_getElem? (i := 76) rfl) rfl
theorem k_797 : Cond.methodLink "OldBeamsLaw" 26 ⟨"OldBeamsModel", "seat", "(IIIII)I"⟩ ∈ tb := inT4 (List.mem_of_getElem? (i := 77) rfl) rfl
theorem k_798 : Cond.instanceMethod ⟨"OldBeamsModel", "seat", "(IIIII)I"⟩ ∈ tb := inT4 (List.mem_of_getElem? (i := 78) rfl) rfl
theorem k_799 : Cond.selects "OldBeamsModel" ⟨"OldBeamsModel", "seat", "(IIIII)I"⟩ ⟨"OldBeamsModel", "seat", "(IIIII)I"⟩ ∈ tb := inT4 (List.mem_of_getElem? (i := 79) rfl) rfl
theorem k_800 : Cond.code ⟨"OldBeamsModel", "seat", "(IIIII)I"⟩ prog_7_method_11_code 10 (some .int) ∈ tb := inT4 (List.mem_of_getElem? (i := 80) rfl) rfl
theorem k_801 : Cond.methodLink "OldBeamsModel" 157 ⟨"OldBeamsModel", "isBeam", "(I)Z"⟩ ∈ tb := inT4 (List.mem_of_getElem? (i := 81) rfl) rfl
theorem k_803 : Cond.instanceMethod ⟨"OldBeamsModel", "isBeam", "(I)Z"⟩ ∈ tb := inT4 (List.mem_of_getElem? (i := 83) rfl) rfl
theorem k_804 : Cond.code ⟨"OldBeamsModel", "isBeam", "(I)Z"⟩ prog_7_method_9_code 2 (some .boolean) ∈ tb := inT4 (List.mem_of_getElem? (i := 84) rfl) rfl
theorem k_805 : Cond.constant "OldBeamsModel" 160 (-900003) ∈ tb := inT4 (List.mem_of_getElem? (i := 85) rfl) rfl
theorem k_806 : Cond.methodLink "OldBeamsLaw" 31 ⟨"OldBeamsModel", "about", "(II)I"⟩ ∈ tb := inT4 (List.mem_of_getElem? (i := 86) rfl) rfl
theorem k_807 : Cond.instanceMethod ⟨"OldBeamsModel", "about", "(II)I"⟩ ∈ tb := inT4 (List.mem_of_getElem? (i := 87) rfl) rfl
theorem k_808 : Cond.selects "OldBeamsModel" ⟨"OldBeamsModel", "about", "(II)I"⟩ ⟨"OldBeamsModel", "about", "(II)I"⟩ ∈ tb := inT4 (List.mem_of_getElem? (i := 88) rfl) rfl
theorem k_809 : Cond.code ⟨"OldBeamsModel", "about", "(II)I"⟩ prog_7_method_13_code 3 (some .int) ∈ tb := inT4 (List.mem_of_getElem? (i := 89) rfl) rfl
theorem k_810 : Cond.methodLink "OldBeamsModel" 161 ⟨"OldBeamsModel", "layNow", "()V"⟩ ∈ tb := inT4 (List.mem_of_getElem? (i := 90) rfl) rfl
theorem k_812 : Cond.instanceMethod ⟨"OldBeamsModel", "layNow", "()V"⟩ ∈ tb := inT4 (List.mem_of_getElem? (i := 92) rfl) rfl
theorem k_813 : Cond.code ⟨"OldBeamsModel", "layNow", "()V"⟩ prog_7_method_26_code 1 none ∈ tb := inT4 (List.mem_of_getElem? (i := 93) rfl) rfl
theorem k_814 : Cond.methodLink "OldBeamsModel" 193 ⟨"OldBeamsModel", "tryNow", "()V"⟩ ∈ tb := inT4 (List.mem_of_getElem? (i := 94) rfl) rfl
theorem k_816 : Cond.instanceMethod ⟨"OldBeamsModel", "tryNow", "()V"⟩ ∈ tb := inT4 (List.mem_of_getElem? (i := 96) rfl) rfl
theorem k_817 : Cond.code ⟨"OldBeamsModel", "tryNow", "()V"⟩ prog_7_method_19_code 2 none ∈ tb := inT4 (List.mem_of_getElem? (i := 97) rfl) rfl
theorem k_818 : Cond.methodLink "OldBeamsModel" 196 ⟨"OldBeamsModel", "layTried", "()V"⟩ ∈ tb := inT4 (List.mem_of_getElem? (i := 98) rfl) rfl
theorem k_820 : Cond.instanceMethod ⟨"OldBeamsModel", "layTried", "()V"⟩ ∈ tb := inT4 (List.mem_of_getElem? (i := 100) rfl) rfl
theorem k_821 : Cond.code ⟨"OldBeamsModel", "layTried", "()V"⟩ prog_7_method_21_code 2 none ∈ tb := inT4 (List.mem_of_getElem? (i := 101) rfl) rfl
theorem k_822 : Cond.methodLink "OldBeamsModel" 176 ⟨"OldBeamsModel", "layDown", "()V"⟩ ∈ tb := inT4 (List.mem_of_getElem? (i := 102) rfl) rfl
theorem k_824 : Cond.instanceMethod ⟨"OldBeamsModel", "layDown", "()V"⟩ ∈ tb := inT4 (List.mem_of_getElem? (i := 104) rfl) rfl
theorem k_825 : Cond.code ⟨"OldBeamsModel", "layDown", "()V"⟩ prog_7_method_20_code 3 none ∈ tb := inT4 (List.mem_of_getElem? (i := 105) rfl) rfl
theorem k_826 : Cond.methodLink "OldBeamsModel" 179 ⟨"OldBeamsModel", "layPush", "(I)V"⟩ ∈ tb := inT4 (List.mem_of_getElem? (i := 106) rfl) rfl
theorem k_828 : Cond.instanceMethod ⟨"OldBeamsModel", "layPush", "(I)V"⟩ ∈ tb := inT4 (List.mem_of_getElem? (i := 108) rfl) rfl
theorem k_829 : Cond.code ⟨"OldBeamsModel", "layPush", "(I)V"⟩ prog_7_method_23_code 7 none ∈ tb := inT4 (List.mem_of_getElem? (i := 109) rfl) rfl
theorem k_830 : Cond.methodLink "OldBeamsModel" 186 ⟨"OldBeamsModel", "cutDown", "(JJ)J"⟩ ∈ tb := inT4 (List.mem_of_getElem? (i := 110) rfl) rfl
theorem k_831 : Cond.static ⟨"OldBeamsModel", "cutDown", "(JJ)J"⟩ ∈ tb := inT4 (List.mem_of_getElem? (i := 111) rfl) rfl
theorem k_832 : Cond.code ⟨"OldBeamsModel", "cutDown", "(JJ)J"⟩ prog_7_method_22_code 6 (some .long) ∈ tb := inT4 (List.mem_of_getElem? (i := 112) rfl) rfl
theorem k_833 : Cond.methodLink "OldBeamsModel" 183 ⟨"OldBeamsModel", "layGreat", "(I)V"⟩ ∈ tb := inT4 (List.mem_of_getElem? (i := 113) rfl) rfl
theorem k_835 : Cond.instanceMethod ⟨"OldBeamsModel", "layGreat", "(I)V"⟩ ∈ tb := inT4 (List.mem_of_getElem? (i := 115) rfl) rfl
theorem k_836 : Cond.code ⟨"OldBeamsModel", "layGreat", "(I)V"⟩ prog_7_method_25_code 5 none ∈ tb := inT4 (List.mem_of_getElem? (i := 116) rfl) rfl
theorem k_837 : Cond.methodLink "OldBeamsModel" 189 ⟨"OldBeamsModel", "bendingOf", "(II)J"⟩ ∈ tb := inT4 (List.mem_of_getElem? (i := 117) rfl) rfl
theorem k_839 : Cond.instanceMethod ⟨"OldBeamsModel", "bendingOf", "(II)J"⟩ ∈ tb := inT4 (List.mem_of_getElem? (i := 119) rfl) rfl
theorem k_840 : Cond.code ⟨"OldBeamsModel", "bendingOf", "(II)J"⟩ prog_7_method_24_code 6 (some .long) ∈ tb := inT4 (List.mem_of_getElem? (i := 120) rfl) rfl
theorem k_841 : Cond.methodLink "OldBeamsModel" 164 ⟨"OldBeamsModel", "whole", "(I)I"⟩ ∈ tb := inT4 (List.mem_of_getElem? (i := 121) rfl) rfl
theorem k_843 : Cond.instanceMethod ⟨"OldBeamsModel", "whole", "(I)I"⟩ ∈ tb := inT4 (List.mem_of_getElem? (i := 123) rfl) rfl
theorem k_844 : Cond.code ⟨"OldBeamsModel", "whole", "(I)I"⟩ prog_7_method_12_code 2 (some .int) ∈ tb := inT4 (List.mem_of_getElem? (i := 124) rfl) rfl
theorem k_845 : Cond.methodLink "OldBeamsLaw" 36 ⟨"OldBeamsModel", "wet", "(IZ)I"⟩ ∈ tb := inT4 (List.mem_of_getElem? (i := 125) rfl) rfl
theorem k_846 : Cond.instanceMethod ⟨"OldBeamsModel", "wet", "(IZ)I"⟩ ∈ tb := inT4 (List.mem_of_getElem? (i := 126) rfl) rfl
theorem k_847 : Cond.selects "OldBeamsModel" ⟨"OldBeamsModel", "wet", "(IZ)I"⟩ ⟨"OldBeamsModel", "wet", "(IZ)I"⟩ ∈ tb := inT4 (List.mem_of_getElem? (i := 127) rfl) rfl
theorem k_848 : Cond.code ⟨"OldBeamsModel", "wet", "(IZ)I"⟩ prog_7_method_14_code 4 (some .int) ∈ tb := inT4 (List.mem_of_getElem? (i := 128) rfl) rfl
theorem k_849 : Cond.methodLink "OldBeamsLaw" 40 ⟨"OldBeamsModel", "load", "(III)I"⟩ ∈ tb := inT4 (List.mem_of_getElem? (i := 129) rfl) rfl
theorem k_850 : Cond.instanceMethod ⟨"OldBeamsModel", "load", "(III)I"⟩ ∈ tb := inT4 (List.mem_of_getElem? (i := 130) rfl) rfl
theorem k_851 : Cond.selects "OldBeamsModel" ⟨"OldBeamsModel", "load", "(III)I"⟩ ⟨"OldBeamsModel", "load", "(III)I"⟩ ∈ tb := inT4 (List.mem_of_getElem? (i := 131) rfl) rfl
theorem k_852 : Cond.code ⟨"OldBeamsModel", "load", "(III)I"⟩ prog_7_method_15_code 4 (some .int) ∈ tb := inT4 (List.mem_of_getElem? (i := 132) rfl) rfl
theorem k_853 : Cond.constantLong "OldBeamsModel" 168 9999 ∈ tb := inT4 (List.mem_of_getElem? (i := 133) rfl) rfl
theorem k_854 : Cond.methodLink "OldBeamsLaw" 45 ⟨"OldBeamsModel", "takeOff", "(I)I"⟩ ∈ tb := inT4 (List.mem_of_getElem? (i := 134) rfl) rfl
theorem k_855 : Cond.instanceMethod ⟨"OldBeamsModel", "takeOff", "(I)I"⟩ ∈ tb := inT4 (List.mem_of_getElem? (i := 135) rfl) rfl
theorem k_856 : Cond.selects "OldBeamsModel" ⟨"OldBeamsModel", "takeOff", "(I)I"⟩ ⟨"OldBeamsModel", "takeOff", "(I)I"⟩ ∈ tb := inT4 (List.mem_of_getElem? (i := 136) rfl) rfl
theorem k_857 : Cond.code ⟨"OldBeamsModel", "takeOff", "(I)I"⟩ prog_7_method_16_code 2 (some .int) ∈ tb := inT4 (List.mem_of_getElem? (i := 137) rfl) rfl
theorem k_858 : Cond.methodLink "OldBeamsLaw" 132 ⟨"OldBeamsModel", "prop", "(III)I"⟩ ∈ tb := inT4 (List.mem_of_getElem? (i := 138) rfl) rfl
theorem k_859 : Cond.instanceMethod ⟨"OldBeamsModel", "prop", "(III)I"⟩ ∈ tb := inT4 (List.mem_of_getElem? (i := 139) rfl) rfl
theorem k_860 : Cond.selects "OldBeamsModel" ⟨"OldBeamsModel", "prop", "(III)I"⟩ ⟨"OldBeamsModel", "prop", "(III)I"⟩ ∈ tb := inT4 (List.mem_of_getElem? (i := 140) rfl) rfl
theorem k_861 : Cond.code ⟨"OldBeamsModel", "prop", "(III)I"⟩ prog_7_method_17_code 4 (some .int) ∈ tb := inT4 (List.mem_of_getElem? (i := 141) rfl) rfl
theorem k_862 : Cond.methodLink "OldBeamsLaw" 136 ⟨"OldBeamsModel", "set", "(IZ)I"⟩ ∈ tb := inT4 (List.mem_of_getElem? (i := 142) rfl) rfl
theorem k_863 : Cond.instanceMethod ⟨"OldBeamsModel", "set", "(IZ)I"⟩ ∈ tb := inT4 (List.mem_of_getElem? (i := 143) rfl) rfl
theorem k_864 : Cond.selects "OldBeamsModel" ⟨"OldBeamsModel", "set", "(IZ)I"⟩ ⟨"OldBeamsModel", "set", "(IZ)I"⟩ ∈ tb := inT4 (List.mem_of_getElem? (i := 144) rfl) rfl
theorem k_865 : Cond.code ⟨"OldBeamsModel", "set", "(IZ)I"⟩ prog_7_method_18_code 4 (some .int) ∈ tb := inT4 (List.mem_of_getElem? (i := 145) rfl) rfl
theorem k_866 : Cond.methodLink "OldBeamsLaw" 49 ⟨"OldBeamsModel", "fall", "(I)I"⟩ ∈ tb := inT4 (List.mem_of_getElem? (i := 146) rfl) rfl
theorem k_867 : Cond.instanceMethod ⟨"OldBeamsModel", "fall", "(I)I"⟩ ∈ tb := inT4 (List.mem_of_getElem? (i := 147) rfl) rfl
theorem k_868 : Cond.selects "OldBeamsModel" ⟨"OldBeamsModel", "fall", "(I)I"⟩ ⟨"OldBeamsModel", "fall", "(I)I"⟩ ∈ tb := inT4 (List.mem_of_getElem? (i := 148) rfl) rfl
theorem k_869 : Cond.code ⟨"OldBeamsModel", "fall", "(I)I"⟩ prog_7_method_30_code 2 (some .int) ∈ tb := inT4 (List.mem_of_getElem? (i := 149) rfl) rfl
theorem k_870 : Cond.methodLink "OldBeamsModel" 202 ⟨"OldBeamsModel", "downMany", "()I"⟩ ∈ tb := inT4 (List.mem_of_getElem? (i := 150) rfl) rfl
theorem k_872 : Cond.instanceMethod ⟨"OldBeamsModel", "downMany", "()I"⟩ ∈ tb := inT4 (List.mem_of_getElem? (i := 152) rfl) rfl
theorem k_873 : Cond.code ⟨"OldBeamsModel", "downMany", "()I"⟩ prog_7_method_29_code 3 (some .int) ∈ tb := inT4 (List.mem_of_getElem? (i := 153) rfl) rfl
theorem k_874 : Cond.methodLink "OldBeamsLaw" 54 ⟨"OldBeamsModel", "push", "(II)J"⟩ ∈ tb := inT4 (List.mem_of_getElem? (i := 154) rfl) rfl
theorem k_875 : Cond.instanceMethod ⟨"OldBeamsModel", "push", "(II)J"⟩ ∈ tb := inT4 (List.mem_of_getElem? (i := 155) rfl) rfl
theorem k_876 : Cond.selects "OldBeamsModel" ⟨"OldBeamsModel", "push", "(II)J"⟩ ⟨"OldBeamsModel", "push", "(II)J"⟩ ∈ tb := inT4 (List.mem_of_getElem? (i := 156) rfl) rfl
theorem k_877 : Cond.code ⟨"OldBeamsModel", "push", "(II)J"⟩ prog_7_method_32_code 4 (some .long) ∈ tb := inT4 (List.mem_of_getElem? (i := 157) rfl) rfl
theorem k_878 : Cond.methodLink "OldBeamsModel" 206 ⟨"OldBeamsModel", "mayTell", "(IZ)I"⟩ ∈ tb := inT4 (List.mem_of_getElem? (i := 158) rfl) rfl
theorem k_880 : Cond.instanceMethod ⟨"OldBeamsModel", "mayTell", "(IZ)I"⟩ ∈ tb := inT4 (List.mem_of_getElem? (i := 160) rfl) rfl
theorem k_881 : Cond.code ⟨"OldBeamsModel", "mayTell", "(IZ)I"⟩ prog_7_method_31_code 3 (some .int) ∈ tb := inT4 (List.mem_of_getElem? (i := 161) rfl) rfl
theorem k_882 : Cond.methodLink "OldBeamsLaw" 58 ⟨"OldBeamsModel", "bending", "(II)J"⟩ ∈ tb := inT4 (List.mem_of_getElem? (i := 162) rfl) rfl
theorem k_883 : Cond.instanceMethod ⟨"OldBeamsModel", "bending", "(II)J"⟩ ∈ tb := inT4 (List.mem_of_getElem? (i := 163) rfl) rfl
theorem k_884 : Cond.selects "OldBeamsModel" ⟨"OldBeamsModel", "bending", "(II)J"⟩ ⟨"OldBeamsModel", "bending", "(II)J"⟩ ∈ tb := inT4 (List.mem_of_getElem? (i := 164) rfl) rfl
theorem k_885 : Cond.code ⟨"OldBeamsModel", "bending", "(II)J"⟩ prog_7_method_33_code 4 (some .long) ∈ tb := inT4 (List.mem_of_getElem? (i := 165) rfl) rfl
theorem k_886 : Cond.methodLink "OldBeamsLaw" 63 ⟨"OldBeamsModel", "greatest", "(IZ)J"⟩ ∈ tb := inT4 (List.mem_of_getElem? (i := 166) rfl) rfl
theorem k_887 : Cond.instanceMethod ⟨"OldBeamsModel", "greatest", "(IZ)J"⟩ ∈ tb := inT4 (List.mem_of_getElem? (i := 167) rfl) rfl
theorem k_888 : Cond.selects "OldBeamsModel" ⟨"OldBeamsModel", "greatest", "(IZ)J"⟩ ⟨"OldBeamsModel", "greatest", "(IZ)J"⟩ ∈ tb := inT4 (List.mem_of_getElem? (i := 168) rfl) rfl
theorem k_889 : Cond.code ⟨"OldBeamsModel", "greatest", "(IZ)J"⟩ prog_7_method_34_code 4 (some .long) ∈ tb := inT4 (List.mem_of_getElem? (i := 169) rfl) rfl
theorem k_890 : Cond.methodLink "OldBeamsLaw" 67 ⟨"OldBeamsModel", "lifts", "(I)I"⟩ ∈ tb := inT4 (List.mem_of_getElem? (i := 170) rfl) rfl
theorem k_891 : Cond.instanceMethod ⟨"OldBeamsModel", "lifts", "(I)I"⟩ ∈ tb := inT4 (List.mem_of_getElem? (i := 171) rfl) rfl
theorem k_892 : Cond.selects "OldBeamsModel" ⟨"OldBeamsModel", "lifts", "(I)I"⟩ ⟨"OldBeamsModel", "lifts", "(I)I"⟩ ∈ tb := inT4 (List.mem_of_getElem? (i := 172) rfl) rfl
theorem k_893 : Cond.code ⟨"OldBeamsModel", "lifts", "(I)I"⟩ prog_7_method_35_code 3 (some .int) ∈ tb := inT4 (List.mem_of_getElem? (i := 173) rfl) rfl
theorem k_894 : Cond.methodLink "OldBeamsModel" 199 ⟨"OldBeamsModel", "isLifting", "(I)Z"⟩ ∈ tb := inT4 (List.mem_of_getElem? (i := 174) rfl) rfl
theorem k_896 : Cond.instanceMethod ⟨"OldBeamsModel", "isLifting", "(I)Z"⟩ ∈ tb := inT4 (List.mem_of_getElem? (i := 176) rfl) rfl
theorem k_897 : Cond.code ⟨"OldBeamsModel", "isLifting", "(I)Z"⟩ prog_7_method_27_code 2 (some .boolean) ∈ tb := inT4 (List.mem_of_getElem? (i := 177) rfl) rfl
theorem k_898 : Cond.methodLink "OldBeamsLaw" 71 ⟨"OldBeamsModel", "holds", "(II)I"⟩ ∈ tb := inT4 (List.mem_of_getElem? (i := 178) rfl) rfl
theorem k_899 : Cond.instanceMethod ⟨"OldBeamsModel", "holds", "(II)I"⟩ ∈ tb := inT4 (List.mem_of_getElem? (i := 179) rfl) rfl
theorem k_900 : Cond.selects "OldBeamsModel" ⟨"OldBeamsModel", "holds", "(II)I"⟩ ⟨"OldBeamsModel", "holds", "(II)I"⟩ ∈ tb := inT4 (List.mem_of_getElem? (i := 180) rfl) rfl
theorem k_901 : Cond.code ⟨"OldBeamsModel", "holds", "(II)I"⟩ prog_7_method_36_code 4 (some .int) ∈ tb := inT4 (List.mem_of_getElem? (i := 181) rfl) rfl
theorem k_902 : Cond.methodLink "OldBeamsModel" 210 ⟨"OldBeamsModel", "isHolding", "(II)Z"⟩ ∈ tb := inT4 (List.mem_of_getElem? (i := 182) rfl) rfl
theorem k_904 : Cond.instanceMethod ⟨"OldBeamsModel", "isHolding", "(II)Z"⟩ ∈ tb := inT4 (List.mem_of_getElem? (i := 184) rfl) rfl
theorem k_905 : Cond.code ⟨"OldBeamsModel", "isHolding", "(II)Z"⟩ prog_7_method_28_code 3 (some .boolean) ∈ tb := inT4 (List.mem_of_getElem? (i := 185) rfl) rfl
theorem k_906 : Cond.methodLink "OldBeamsLaw" 75 ⟨"OldBeamsModel", "needs", "(I)I"⟩ ∈ tb := inT4 (List.mem_of_getElem? (i := 186) rfl) rfl
theorem k_907 : Cond.instanceMethod ⟨"OldBeamsModel", "needs", "(I)I"⟩ ∈ tb := inT4 (List.mem_of_getElem? (i := 187) rfl) rfl
theorem k_908 : Cond.selects "OldBeamsModel" ⟨"OldBeamsModel", "needs", "(I)I"⟩ ⟨"OldBeamsModel", "needs", "(I)I"⟩ ∈ tb := inT4 (List.mem_of_getElem? (i := 188) rfl) rfl
theorem k_909 : Cond.code ⟨"OldBeamsModel", "needs", "(I)I"⟩ prog_7_method_37_code 4 (some .int) ∈ tb := inT4 (List.mem_of_getElem? (i := 189) rfl) rfl
theorem k_910 : Cond.methodLink "OldBeamsLaw" 79 ⟨"OldBeamsModel", "weight", "(III)I"⟩ ∈ tb := inT4 (List.mem_of_getElem? (i := 190) rfl) rfl
theorem k_911 : Cond.instanceMethod ⟨"OldBeamsModel", "weight", "(III)I"⟩ ∈ tb := inT4 (List.mem_of_getElem? (i := 191) rfl) rfl
theorem k_912 : Cond.selects "OldBeamsModel" ⟨"OldBeamsModel", "weight", "(III)I"⟩ ⟨"OldBeamsModel", "weight", "(III)I"⟩ ∈ tb := inT4 (List.mem_of_getElem? (i := 192) rfl) rfl
theorem k_913 : Cond.code ⟨"OldBeamsModel", "weight", "(III)I"⟩ prog_7_method_39_code 6 (some .int) ∈ tb := inT4 (List.mem_of_getElem? (i := 193) rfl) rfl
theorem k_914 : Cond.constantLong "OldBeamsModel" 217 99 ∈ tb := inT4 (List.mem_of_getElem? (i := 194) rfl) rfl
theorem k_915 : Cond.methodLink "OldBeamsModel" 219 ⟨"OldBeamsModel", "looksAt", "(I)I"⟩ ∈ tb := inT4 (List.mem_of_getElem? (i := 195) rfl) rfl
theorem k_917 : Cond.instanceMethod ⟨"OldBeamsModel", "looksAt", "(I)I"⟩ ∈ tb := inT4 (List.mem_of_getElem? (i := 197) rfl) rfl
theorem k_918 : Cond.code ⟨"OldBeamsModel", "looksAt", "(I)I"⟩ prog_7_method_38_code 4 (some .int) ∈ tb := inT4 (List.mem_of_getElem? (i := 198) rfl) rfl
theorem k_919 : Cond.methodLink "OldBeamsLaw" 83 ⟨"OldBeamsModel", "tool", "(III)I"⟩ ∈ tb := inT4 (List.mem_of_getElem? (i := 199) rfl) rfl
theorem k_920 : Cond.instanceMethod ⟨"OldBeamsModel", "tool", "(III)I"⟩ ∈ tb := inT4 (List.mem_of_getElem? (i := 200) rfl) rfl
theorem k_921 : Cond.selects "OldBeamsModel" ⟨"OldBeamsModel", "tool", "(III)I"⟩ ⟨"OldBeamsModel", "tool", "(III)I"⟩ ∈ tb := inT4 (List.mem_of_getElem? (i := 201) rfl) rfl
theorem k_922 : Cond.code ⟨"OldBeamsModel", "tool", "(III)I"⟩ prog_7_method_40_code 5 (some .int) ∈ tb := inT4 (List.mem_of_getElem? (i := 202) rfl) rfl
theorem k_923 : Cond.constantLong "OldBeamsModel" 222 9 ∈ tb := inT4 (List.mem_of_getElem? (i := 203) rfl) rfl
theorem k_924 : Cond.methodLink "OldBeamsLaw" 88 ⟨"OldBeamsModel", "look", "(IIII)I"⟩ ∈ tb := inT4 (List.mem_of_getElem? (i := 204) rfl) rfl
theorem k_925 : Cond.instanceMethod ⟨"OldBeamsModel", "look", "(IIII)I"⟩ ∈ tb := inT4 (List.mem_of_getElem? (i := 205) rfl) rfl
theorem k_926 : Cond.selects "OldBeamsModel" ⟨"OldBeamsModel", "look", "(IIII)I"⟩ ⟨"OldBeamsModel", "look", "(IIII)I"⟩ ∈ tb := inT4 (List.mem_of_getElem? (i := 206) rfl) rfl
theorem k_927 : Cond.code ⟨"OldBeamsModel", "look", "(IIII)I"⟩ prog_7_method_41_code 5 (some .int) ∈ tb := inT4 (List.mem_of_getElem? (i := 207) rfl) rfl
theorem k_928 : Cond.methodLink "OldBeamsLaw" 93 ⟨"OldBeamsModel", "odds", "(III)J"⟩ ∈ tb := inT4 (List.mem_of_getElem? (i := 208) rfl) rfl
theorem k_929 : Cond.instanceMethod ⟨"OldBeamsModel", "odds", "(III)J"⟩ ∈ tb := inT4 (List.mem_of_getElem? (i := 209) rfl) rfl
theorem k_930 : Cond.selects "OldBeamsModel" ⟨"OldBeamsModel", "odds", "(III)J"⟩ ⟨"OldBeamsModel", "odds", "(III)J"⟩ ∈ tb := inT4 (List.mem_of_getElem? (i := 210) rfl) rfl
theorem k_931 : Cond.code ⟨"OldBeamsModel", "odds", "(III)J"⟩ prog_7_method_45_code 4 (some .long) ∈ tb := inT4 (List.mem_of_getElem? (i := 211) rfl) rfl
theorem k_932 : Cond.constantLong "OldBeamsModel" 234 (-900001) ∈ tb := inT4 (List.mem_of_getElem? (i := 212) rfl) rfl
theorem k_933 : Cond.constantLong "OldBeamsModel" 236 (-900002) ∈ tb := inT4 (List.mem_of_getElem? (i := 213) rfl) rfl
theorem k_934 : Cond.methodLink "OldBeamsModel" 238 ⟨"OldBeamsModel", "layOdds", "(II)V"⟩ ∈ tb := inT4 (List.mem_of_getElem? (i := 214) rfl) rfl
theorem k_936 : Cond.instanceMethod ⟨"OldBeamsModel", "layOdds", "(II)V"⟩ ∈ tb := inT4 (List.mem_of_getElem? (i := 216) rfl) rfl
theorem k_937 : Cond.code ⟨"OldBeamsModel", "layOdds", "(II)V"⟩ prog_7_method_43_code 4 none ∈ tb := inT4 (List.mem_of_getElem? (i := 217) rfl) rfl
theorem k_938 : Cond.methodLink "OldBeamsModel" 227 ⟨"OldBeamsModel", "takeLook", "(I)V"⟩ ∈ tb := inT4 (List.mem_of_getElem? (i := 218) rfl) rfl
theorem k_940 : Cond.instanceMethod ⟨"OldBeamsModel", "takeLook", "(I)V"⟩ ∈ tb := inT4 (List.mem_of_getElem? (i := 220) rfl) rfl
theorem k_941 : Cond.code ⟨"OldBeamsModel", "takeLook", "(I)V"⟩ prog_7_method_44_code 5 none ∈ tb := inT4 (List.mem_of_getElem? (i := 221) rfl) rfl
theorem k_942 : Cond.methodLink "OldBeamsModel" 230 ⟨"OldBeamsModel", "comes", "(III)I"⟩ ∈ tb := inT4 (List.mem_of_getElem? (i := 222) rfl) rfl
theorem k_944 : Cond.instanceMethod ⟨"OldBeamsModel", "comes", "(III)I"⟩ ∈ tb := inT4 (List.mem_of_getElem? (i := 224) rfl) rfl
theorem k_945 : Cond.code ⟨"OldBeamsModel", "comes", "(III)I"⟩ prog_7_method_42_code 4 (some .int) ∈ tb := inT4 (List.mem_of_getElem? (i := 225) rfl) rfl
theorem k_946 : Cond.methodLink "OldBeamsModel" 130 ⟨"OldBeamsModel", "common", "(JJ)J"⟩ ∈ tb := inT4 (List.mem_of_getElem? (i := 226) rfl) rfl
theorem k_947 : Cond.static ⟨"OldBeamsModel", "common", "(JJ)J"⟩ ∈ tb := inT4 (List.mem_of_getElem? (i := 227) rfl) rfl
theorem k_948 : Cond.code ⟨"OldBeamsModel", "common", "(JJ)J"⟩ prog_7_method_5_code 10 (some .long) ∈ tb := inT4 (List.mem_of_getElem? (i := 228) rfl) rfl
theorem k_949 : Cond.methodLink "OldBeamsLaw" 97 ⟨"OldBeamsModel", "quarrel", "(II)I"⟩ ∈ tb := inT4 (List.mem_of_getElem? (i := 229) rfl) rfl
theorem k_950 : Cond.instanceMethod ⟨"OldBeamsModel", "quarrel", "(II)I"⟩ ∈ tb := inT4 (List.mem_of_getElem? (i := 230) rfl) rfl
theorem k_951 : Cond.selects "OldBeamsModel" ⟨"OldBeamsModel", "quarrel", "(II)I"⟩ ⟨"OldBeamsModel", "quarrel", "(II)I"⟩ ∈ tb := inT4 (List.mem_of_getElem? (i := 231) rfl) rfl
theorem k_952 : Cond.code ⟨"OldBeamsModel", "quarrel", "(II)I"⟩ prog_7_method_46_code 3 (some .int) ∈ tb := inT4 (List.mem_of_getElem? (i := 232) rfl) rfl
theorem k_953 : Cond.methodLink "OldBeamsLaw" 102 ⟨"OldBeamsModel", "share", "(IIIZ)I"⟩ ∈ tb := inT4 (List.mem_of_getElem? (i := 233) rfl) rfl
theorem k_954 : Cond.instanceMethod ⟨"OldBeamsModel", "share", "(IIIZ)I"⟩ ∈ tb := inT4 (List.mem_of_getElem? (i := 234) rfl) rfl
theorem k_955 : Cond.selects "OldBeamsModel" ⟨"OldBeamsModel", "share", "(IIIZ)I"⟩ ⟨"OldBeamsModel", "share", "(IIIZ)I"⟩ ∈ tb := inT4 (List.mem_of_getElem? (i := 235) rfl) rfl
theorem k_956 : Cond.code ⟨"OldBeamsModel", "share", "(IIIZ)I"⟩ prog_7_method_49_code 5 (some .int) ∈ tb := inT4 (List.mem_of_getElem? (i := 236) rfl) rfl
theorem k_957 : Cond.methodLink "OldBeamsModel" 242 ⟨"OldBeamsModel", "areYears", "(II)Z"⟩ ∈ tb := inT4 (List.mem_of_getElem? (i := 237) rfl) rfl
theorem k_958 : Cond.static ⟨"OldBeamsModel", "areYears", "(II)Z"⟩ ∈ tb := inT4 (List.mem_of_getElem? (i := 238) rfl) rfl
theorem k_959 : Cond.code ⟨"OldBeamsModel", "areYears", "(II)Z"⟩ prog_7_method_48_code 2 (some .boolean) ∈ tb := inT4 (List.mem_of_getElem? (i := 239) rfl) rfl
theorem k_960 : Cond.methodLink "OldBeamsModel" 245 ⟨"OldBeamsModel", "shareOf", "(IIIZ)I"⟩ ∈ tb := inT5 (List.mem_of_getElem? (i := 0) rfl) rfl
theorem k_962 : Cond.instanceMethod ⟨"OldBeamsModel", "shareOf", "(IIIZ)I"⟩ ∈ tb := inT5 (List.mem_of_getElem? (i := 2) rfl) rfl
theorem k_963 : Cond.code ⟨"OldBeamsModel", "shareOf", "(IIIZ)I"⟩ prog_7_method_47_code 7 (some .int) ∈ tb := inT5 (List.mem_of_getElem? (i := 3) rfl) rfl
theorem k_964 : Cond.methodLink "OldBeamsLaw" 107 ⟨"OldBeamsModel", "stands", "(IIZ)I"⟩ ∈ tb := inT5 (List.mem_of_getElem? (i := 4) rfl) rfl
theorem k_965 : Cond.instanceMethod ⟨"OldBeamsModel", "stands", "(IIZ)I"⟩ ∈ tb := inT5 (List.mem_of_getElem? (i := 5) rfl) rfl
theorem k_966 : Cond.selects "OldBeamsModel" ⟨"OldBeamsModel", "stands", "(IIZ)I"⟩ ⟨"OldBeamsModel", "stands", "(IIZ)I"⟩ ∈ tb := inT5 (List.mem_of_getElem? (i := 6) rfl) rfl
theorem k_967 : Cond.code ⟨"OldBeamsModel", "stands", "(IIZ)I"⟩ prog_7_method_51_code 4 (some .int) ∈ tb := inT5 (List.mem_of_getElem? (i := 7) rfl) rfl
theorem k_968 : Cond.methodLink "OldBeamsModel" 249 ⟨"OldBeamsModel", "isStanding", "(IIZ)Z"⟩ ∈ tb := inT5 (List.mem_of_getElem? (i := 8) rfl) rfl
theorem k_970 : Cond.instanceMethod ⟨"OldBeamsModel", "isStanding", "(IIZ)Z"⟩ ∈ tb := inT5 (List.mem_of_getElem? (i := 10) rfl) rfl
theorem k_971 : Cond.code ⟨"OldBeamsModel", "isStanding", "(IIZ)Z"⟩ prog_7_method_50_code 6 (some .boolean) ∈ tb := inT5 (List.mem_of_getElem? (i := 11) rfl) rfl
theorem k_972 : Cond.methodLink "OldBeamsLaw" 111 ⟨"OldBeamsModel", "until", "(IZ)I"⟩ ∈ tb := inT5 (List.mem_of_getElem? (i := 12) rfl) rfl
theorem k_973 : Cond.instanceMethod ⟨"OldBeamsModel", "until", "(IZ)I"⟩ ∈ tb := inT5 (List.mem_of_getElem? (i := 13) rfl) rfl
theorem k_974 : Cond.selects "OldBeamsModel" ⟨"OldBeamsModel", "until", "(IZ)I"⟩ ⟨"OldBeamsModel", "until", "(IZ)I"⟩ ∈ tb := inT5 (List.mem_of_getElem? (i := 14) rfl) rfl
theorem k_975 : Cond.code ⟨"OldBeamsModel", "until", "(IZ)I"⟩ prog_7_method_52_code 5 (some .int) ∈ tb := inT5 (List.mem_of_getElem? (i := 15) rfl) rfl
theorem k_976 : Cond.methodLink "OldBeamsLaw" 116 ⟨"OldBeamsModel", "chance", "(IIZ)J"⟩ ∈ tb := inT5 (List.mem_of_getElem? (i := 16) rfl) rfl
theorem k_977 : Cond.instanceMethod ⟨"OldBeamsModel", "chance", "(IIZ)J"⟩ ∈ tb := inT5 (List.mem_of_getElem? (i := 17) rfl) rfl
theorem k_978 : Cond.selects "OldBeamsModel" ⟨"OldBeamsModel", "chance", "(IIZ)J"⟩ ⟨"OldBeamsModel", "chance", "(IIZ)J"⟩ ∈ tb := inT5 (List.mem_of_getElem? (i := 18) rfl) rfl
theorem k_979 : Cond.code ⟨"OldBeamsModel", "chance", "(IIZ)J"⟩ prog_7_method_54_code 5 (some .long) ∈ tb := inT5 (List.mem_of_getElem? (i := 19) rfl) rfl
theorem k_980 : Cond.methodLink "OldBeamsModel" 260 ⟨"OldBeamsModel", "layChance", "(II)V"⟩ ∈ tb := inT5 (List.mem_of_getElem? (i := 20) rfl) rfl
theorem k_982 : Cond.instanceMethod ⟨"OldBeamsModel", "layChance", "(II)V"⟩ ∈ tb := inT5 (List.mem_of_getElem? (i := 22) rfl) rfl
theorem k_983 : Cond.code ⟨"OldBeamsModel", "layChance", "(II)V"⟩ prog_7_method_53_code 4 none ∈ tb := inT5 (List.mem_of_getElem? (i := 23) rfl) rfl
theorem k_984 : Cond.methodLink "OldBeamsModel" 263 ⟨"OldBeamsModel", "told", "(JJZ)J"⟩ ∈ tb := inT5 (List.mem_of_getElem? (i := 24) rfl) rfl
theorem k_985 : Cond.static ⟨"OldBeamsModel", "told", "(JJZ)J"⟩ ∈ tb := inT5 (List.mem_of_getElem? (i := 25) rfl) rfl
theorem k_986 : Cond.code ⟨"OldBeamsModel", "told", "(JJZ)J"⟩ prog_7_method_6_code 7 (some .long) ∈ tb := inT5 (List.mem_of_getElem? (i := 26) rfl) rfl
theorem k_987 : Cond.methodLink "OldBeamsLaw" 120 ⟨"OldBeamsModel", "weakest", "(I)I"⟩ ∈ tb := inT5 (List.mem_of_getElem? (i := 27) rfl) rfl
theorem k_988 : Cond.instanceMethod ⟨"OldBeamsModel", "weakest", "(I)I"⟩ ∈ tb := inT5 (List.mem_of_getElem? (i := 28) rfl) rfl
theorem k_989 : Cond.selects "OldBeamsModel" ⟨"OldBeamsModel", "weakest", "(I)I"⟩ ⟨"OldBeamsModel", "weakest", "(I)I"⟩ ∈ tb := inT5 (List.mem_of_getElem? (i := 29) rfl) rfl
theorem k_990 : Cond.code ⟨"OldBeamsModel", "weakest", "(I)I"⟩ prog_7_method_55_code 8 (some .int) ∈ tb := inT5 (List.mem_of_getElem? (i := 30) rfl) rfl
theorem k_991 : Cond.methodLink "OldBeamsModel" 267 ⟨"OldBeamsModel", "isAbove", "(JJJJ)Z"⟩ ∈ tb := inT5 (List.mem_of_getElem? (i := 31) rfl) rfl
theorem k_992 : Cond.static ⟨"OldBeamsModel", "isAbove", "(JJJJ)Z"⟩ ∈ tb := inT5 (List.mem_of_getElem? (i := 32) rfl) rfl
theorem k_993 : Cond.code ⟨"OldBeamsModel", "isAbove", "(JJJJ)Z"⟩ prog_7_method_7_code 21 (some .boolean) ∈ tb := inT5 (List.mem_of_getElem? (i := 33) rfl) rfl
theorem k_994 : Cond.methodLink "OldBeamsLaw" 124 ⟨"OldBeamsModel", "chain", "(II)I"⟩ ∈ tb := inT5 (List.mem_of_getElem? (i := 34) rfl) rfl
theorem k_995 : Cond.instanceMethod ⟨"OldBeamsModel", "chain", "(II)I"⟩ ∈ tb := inT5 (List.mem_of_getElem? (i := 35) rfl) rfl
theorem k_996 : Cond.selects "OldBeamsModel" ⟨"OldBeamsModel", "chain", "(II)I"⟩ ⟨"OldBeamsModel", "chain", "(II)I"⟩ ∈ tb := inT5 (List.mem_of_getElem? (i := 36) rfl) rfl
theorem k_997 : Cond.code ⟨"OldBeamsModel", "chain", "(II)I"⟩ prog_7_method_58_code 4 (some .int) ∈ tb := inT5 (List.mem_of_getElem? (i := 37) rfl) rfl
theorem k_998 : Cond.methodLink "OldBeamsModel" 277 ⟨"OldBeamsModel", "layFall", "(II)V"⟩ ∈ tb := inT5 (List.mem_of_getElem? (i := 38) rfl) rfl
theorem k_1000 : Cond.instanceMethod ⟨"OldBeamsModel", "layFall", "(II)V"⟩ ∈ tb := inT5 (List.mem_of_getElem? (i := 40) rfl) rfl
theorem k_1001 : Cond.code ⟨"OldBeamsModel", "layFall", "(II)V"⟩ prog_7_method_56_code 4 none ∈ tb := inT5 (List.mem_of_getElem? (i := 41) rfl) rfl
theorem k_1002 : Cond.methodLink "OldBeamsModel" 274 ⟨"OldBeamsModel", "firstFalling", "(I)I"⟩ ∈ tb := inT5 (List.mem_of_getElem? (i := 42) rfl) rfl
theorem k_1004 : Cond.instanceMethod ⟨"OldBeamsModel", "firstFalling", "(I)I"⟩ ∈ tb := inT5 (List.mem_of_getElem? (i := 44) rfl) rfl
theorem k_1005 : Cond.code ⟨"OldBeamsModel", "firstFalling", "(I)I"⟩ prog_7_method_57_code 3 (some .int) ∈ tb := inT5 (List.mem_of_getElem? (i := 45) rfl) rfl
theorem k_1006 : Cond.methodLink "OldBeamsLaw" 128 ⟨"OldBeamsModel", "chainAt", "(III)I"⟩ ∈ tb := inT5 (List.mem_of_getElem? (i := 46) rfl) rfl
theorem k_1007 : Cond.instanceMethod ⟨"OldBeamsModel", "chainAt", "(III)I"⟩ ∈ tb := inT5 (List.mem_of_getElem? (i := 47) rfl) rfl
theorem k_1008 : Cond.selects "OldBeamsModel" ⟨"OldBeamsModel", "chainAt", "(III)I"⟩ ⟨"OldBeamsModel", "chainAt", "(III)I"⟩ ∈ tb := inT5 (List.mem_of_getElem? (i := 48) rfl) rfl
theorem k_1009 : Cond.code ⟨"OldBeamsModel", "chainAt", "(III)I"⟩ prog_7_method_59_code 5 (some .int) ∈ tb := inT5 (List.mem_of_getElem? (i := 49) rfl) rfl
theorem k_1010 : Cond.methodLink "OldBeamsLaw" 140 ⟨"OldBeamsModel", "fewest", "(I)I"⟩ ∈ tb := inT5 (List.mem_of_getElem? (i := 50) rfl) rfl
theorem k_1011 : Cond.instanceMethod ⟨"OldBeamsModel", "fewest", "(I)I"⟩ ∈ tb := inT5 (List.mem_of_getElem? (i := 51) rfl) rfl
theorem k_1012 : Cond.selects "OldBeamsModel" ⟨"OldBeamsModel", "fewest", "(I)I"⟩ ⟨"OldBeamsModel", "fewest", "(I)I"⟩ ∈ tb := inT5 (List.mem_of_getElem? (i := 52) rfl) rfl
theorem k_1013 : Cond.code ⟨"OldBeamsModel", "fewest", "(I)I"⟩ prog_7_method_63_code 3 (some .int) ∈ tb := inT5 (List.mem_of_getElem? (i := 53) rfl) rfl
theorem k_1014 : Cond.methodLink "OldBeamsModel" 286 ⟨"OldBeamsModel", "bestProps", "(I)I"⟩ ∈ tb := inT5 (List.mem_of_getElem? (i := 54) rfl) rfl
theorem k_1016 : Cond.instanceMethod ⟨"OldBeamsModel", "bestProps", "(I)I"⟩ ∈ tb := inT5 (List.mem_of_getElem? (i := 56) rfl) rfl
theorem k_1017 : Cond.code ⟨"OldBeamsModel", "bestProps", "(I)I"⟩ prog_7_method_62_code 6 (some .int) ∈ tb := inT5 (List.mem_of_getElem? (i := 57) rfl) rfl
theorem k_1018 : Cond.methodLink "OldBeamsModel" 280 ⟨"OldBeamsModel", "ones", "(I)I"⟩ ∈ tb := inT5 (List.mem_of_getElem? (i := 58) rfl) rfl
theorem k_1019 : Cond.static ⟨"OldBeamsModel", "ones", "(I)I"⟩ ∈ tb := inT5 (List.mem_of_getElem? (i := 59) rfl) rfl
theorem k_1020 : Cond.code ⟨"OldBeamsModel", "ones", "(I)I"⟩ prog_7_method_60_code 3 (some .int) ∈ tb := inT5 (List.mem_of_getElem? (i := 60) rfl) rfl
theorem k_1021 : Cond.methodLink "OldBeamsModel" 283 ⟨"OldBeamsModel", "isFirst", "(II)Z"⟩ ∈ tb := inT5 (List.mem_of_getElem? (i := 61) rfl) rfl
theorem k_1022 : Cond.static ⟨"OldBeamsModel", "isFirst", "(II)Z"⟩ ∈ tb := inT5 (List.mem_of_getElem? (i := 62) rfl) rfl
theorem k_1023 : Cond.code ⟨"OldBeamsModel", "isFirst", "(II)Z"⟩ prog_7_method_61_code 3 (some .boolean) ∈ tb := inT5 (List.mem_of_getElem? (i := 63) rfl) rfl
theorem k_1024 : Cond.methodLink "OldBeamsLaw" 144 ⟨"OldBeamsModel", "needed", "(II)I"⟩ ∈ tb := inT5 (List.mem_of_getElem? (i := 64) rfl) rfl
theorem k_1025 : Cond.instanceMethod ⟨"OldBeamsModel", "needed", "(II)I"⟩ ∈ tb := inT5 (List.mem_of_getElem? (i := 65) rfl) rfl
theorem k_1026 : Cond.selects "OldBeamsModel" ⟨"OldBeamsModel", "needed", "(II)I"⟩ ⟨"OldBeamsModel", "needed", "(II)I"⟩ ∈ tb := inT5 (List.mem_of_getElem? (i := 66) rfl) rfl
theorem k_1027 : Cond.code ⟨"OldBeamsModel", "needed", "(II)I"⟩ prog_7_method_64_code 6 (some .int) ∈ tb := inT5 (List.mem_of_getElem? (i := 67) rfl) rfl
theorem k_1028 : Cond.methodLink "OldBeamsLaw" 148 ⟨"OldBeamsModel", "price", "(II)I"⟩ ∈ tb := inT5 (List.mem_of_getElem? (i := 68) rfl) rfl
theorem k_1029 : Cond.instanceMethod ⟨"OldBeamsModel", "price", "(II)I"⟩ ∈ tb := inT5 (List.mem_of_getElem? (i := 69) rfl) rfl
theorem k_1030 : Cond.selects "OldBeamsModel" ⟨"OldBeamsModel", "price", "(II)I"⟩ ⟨"OldBeamsModel", "price", "(II)I"⟩ ∈ tb := inT5 (List.mem_of_getElem? (i := 70) rfl) rfl
theorem k_1031 : Cond.code ⟨"OldBeamsModel", "price", "(II)I"⟩ prog_7_method_65_code 4 (some .int) ∈ tb := inT5 (List.mem_of_getElem? (i := 71) rfl) rfl
theorem k_1032 : Cond.methodLink "OldBeamsLaw" 152 ⟨"OldBeamsModel", "mean", "(IIZ)J"⟩ ∈ tb := inT5 (List.mem_of_getElem? (i := 72) rfl) rfl
theorem k_1033 : Cond.instanceMethod ⟨"OldBeamsModel", "mean", "(IIZ)J"⟩ ∈ tb := inT5 (List.mem_of_getElem? (i := 73) rfl) rfl
theorem k_1034 : Cond.selects "OldBeamsModel" ⟨"OldBeamsModel", "mean", "(IIZ)J"⟩ ⟨"OldBeamsModel", "mean", "(IIZ)J"⟩ ∈ tb := inT5 (List.mem_of_getElem? (i := 74) rfl) rfl
theorem k_1035 : Cond.code ⟨"OldBeamsModel", "mean", "(IIZ)J"⟩ prog_7_method_67_code 5 (some .long) ∈ tb := inT5 (List.mem_of_getElem? (i := 75) rfl) rfl
theorem k_1036 : Cond.methodLink "OldBeamsModel" 289 ⟨"OldBeamsModel", "least", "(JJ)J"⟩ ∈ tb := inT5 (List.mem_of_getElem? (i := 76) rfl) rfl
theorem k_1038 : Cond.instanceMethod ⟨"OldBeamsModel", "least", "(JJ)J"⟩ ∈ tb := inT5 (List.mem_of_getElem? (i := 78) rfl) rfl
theorem k_1039 : Cond.code ⟨"OldBeamsModel", "least", "(JJ)J"⟩ prog_7_method_66_code 9 (some .long) ∈ tb := inT5 (List.mem_of_getElem? (i := 79) rfl) rfl
theorem k_1040 : Cond.methodLink "OldBeamsLaw" 157 ⟨"OldBeamsModel", "worth", "(IIIZ)J"⟩ ∈ tb := inT5 (List.mem_of_getElem? (i := 80) rfl) rfl
theorem k_1041 : Cond.instanceMethod ⟨"OldBeamsModel", "worth", "(IIIZ)J"⟩ ∈ tb := inT5 (List.mem_of_getElem? (i := 81) rfl) rfl
theorem k_1042 : Cond.selects "OldBeamsModel" ⟨"OldBeamsModel", "worth", "(IIIZ)J"⟩ ⟨"OldBeamsModel", "worth", "(IIIZ)J"⟩ ∈ tb := inT5 (List.mem_of_getElem? (i := 82) rfl) rfl
theorem k_1043 : Cond.code ⟨"OldBeamsModel", "worth", "(IIIZ)J"⟩ prog_7_method_69_code 6 (some .long) ∈ tb := inT5 (List.mem_of_getElem? (i := 83) rfl) rfl
theorem k_1044 : Cond.methodLink "OldBeamsModel" 292 ⟨"OldBeamsModel", "worthOf", "(II)J"⟩ ∈ tb := inT5 (List.mem_of_getElem? (i := 84) rfl) rfl
theorem k_1046 : Cond.instanceMethod ⟨"OldBeamsModel", "worthOf", "(II)J"⟩ ∈ tb := inT5 (List.mem_of_getElem? (i := 86) rfl) rfl
theorem k_1047 : Cond.code ⟨"OldBeamsModel", "worthOf", "(II)J"⟩ prog_7_method_68_code 13 (some .long) ∈ tb := inT5 (List.mem_of_getElem? (i := 87) rfl) rfl
theorem k_1048 : Cond.methodLink "OldBeamsLaw" 161 ⟨"OldBeamsModel", "bestLook", "(I)I"⟩ ∈ tb := inT5 (List.mem_of_getElem? (i := 88) rfl) rfl
theorem k_1049 : Cond.instanceMethod ⟨"OldBeamsModel", "bestLook", "(I)I"⟩ ∈ tb := inT5 (List.mem_of_getElem? (i := 89) rfl) rfl
theorem k_1050 : Cond.selects "OldBeamsModel" ⟨"OldBeamsModel", "bestLook", "(I)I"⟩ ⟨"OldBeamsModel", "bestLook", "(I)I"⟩ ∈ tb := inT5 (List.mem_of_getElem? (i := 90) rfl) rfl
theorem k_1051 : Cond.code ⟨"OldBeamsModel", "bestLook", "(I)I"⟩ prog_7_method_70_code 11 (some .int) ∈ tb := inT5 (List.mem_of_getElem? (i := 91) rfl) rfl
theorem k_1052 : Cond.methodLink "OldBeamsLaw" 165 ⟨"OldBeamsModel", "count", "(I)I"⟩ ∈ tb := inT5 (List.mem_of_getElem? (i := 92) rfl) rfl
theorem k_1053 : Cond.instanceMethod ⟨"OldBeamsModel", "count", "(I)I"⟩ ∈ tb := inT5 (List.mem_of_getElem? (i := 93) rfl) rfl
theorem k_1054 : Cond.selects "OldBeamsModel" ⟨"OldBeamsModel", "count", "(I)I"⟩ ⟨"OldBeamsModel", "count", "(I)I"⟩ ∈ tb := inT5 (List.mem_of_getElem? (i := 94) rfl) rfl
theorem k_1055 : Cond.code ⟨"OldBeamsModel", "count", "(I)I"⟩ prog_7_method_71_code 5 (some .int) ∈ tb := inT5 (List.mem_of_getElem? (i := 95) rfl) rfl
theorem inP {q : MethodName × Nat} (h : q ∈ lw_privs) : Cond.selects q.1.cls q.1 q.1 ∈ tb := tb_in (List.mem_append_left _ (List.mem_map.mpr ⟨q, h, rfl⟩)) rfl
theorem kp_0 : Cond.selects "OldBeams" ⟨"OldBeams", "refusal", "(IZ)I"⟩ ⟨"OldBeams", "refusal", "(IZ)I"⟩ ∈ tb := inP (List.mem_of_getElem? (i := 0) rfl)
theorem kp_1 : Cond.selects "OldBeams$Frame" ⟨"OldBeams$Frame", "reckonAll", "(II)V"⟩ ⟨"OldBeams$Frame", "reckonAll", "(II)V"⟩ ∈ tb := inP (List.mem_of_getElem? (i := 1) rfl)
theorem kp_2 : Cond.selects "OldBeams$Frame" ⟨"OldBeams$Frame", "spreadForces", "(I)V"⟩ ⟨"OldBeams$Frame", "spreadForces", "(I)V"⟩ ∈ tb := inP (List.mem_of_getElem? (i := 2) rfl)
theorem kp_3 : Cond.selects "OldBeams$Frame" ⟨"OldBeams$Frame", "reckonBeam", "(LOldBeams$Beam;)V"⟩ ⟨"OldBeams$Frame", "reckonBeam", "(LOldBeams$Beam;)V"⟩ ∈ tb := inP (List.mem_of_getElem? (i := 3) rfl)
theorem kp_4 : Cond.selects "OldBeams$Looks" ⟨"OldBeams$Looks", "applyLook", "(II)Z"⟩ ⟨"OldBeams$Looks", "applyLook", "(II)Z"⟩ ∈ tb := inP (List.mem_of_getElem? (i := 4) rfl)
theorem kp_5 : Cond.selects "OldBeams" ⟨"OldBeams", "takeShares", "(IZ)V"⟩ ⟨"OldBeams", "takeShares", "(IZ)V"⟩ ∈ tb := inP (List.mem_of_getElem? (i := 5) rfl)
theorem kp_6 : Cond.selects "OldBeams" ⟨"OldBeams", "standsAfter", "(I)Z"⟩ ⟨"OldBeams", "standsAfter", "(I)Z"⟩ ∈ tb := inP (List.mem_of_getElem? (i := 6) rfl)
theorem kp_7 : Cond.selects "OldBeams" ⟨"OldBeams", "putChance", "(I)V"⟩ ⟨"OldBeams", "putChance", "(I)V"⟩ ∈ tb := inP (List.mem_of_getElem? (i := 7) rfl)
theorem kp_8 : Cond.selects "OldBeams" ⟨"OldBeams", "lostOdds", "(I)J"⟩ ⟨"OldBeams", "lostOdds", "(I)J"⟩ ∈ tb := inP (List.mem_of_getElem? (i := 8) rfl)
theorem kp_9 : Cond.selects "OldBeams$Frame" ⟨"OldBeams$Frame", "firstNotHolding", "(I[I)I"⟩ ⟨"OldBeams$Frame", "firstNotHolding", "(I[I)I"⟩ ∈ tb := inP (List.mem_of_getElem? (i := 9) rfl)
theorem kp_10 : Cond.selects "OldBeams$Frame" ⟨"OldBeams$Frame", "standsWith", "(I[I)Z"⟩ ⟨"OldBeams$Frame", "standsWith", "(I[I)Z"⟩ ∈ tb := inP (List.mem_of_getElem? (i := 10) rfl)
theorem kp_11 : Cond.selects "OldBeams" ⟨"OldBeams", "putMean", "(I)V"⟩ ⟨"OldBeams", "putMean", "(I)V"⟩ ∈ tb := inP (List.mem_of_getElem? (i := 11) rfl)
theorem kp_12 : Cond.selects "OldBeams" ⟨"OldBeams", "cost", "(JJ)J"⟩ ⟨"OldBeams", "cost", "(JJ)J"⟩ ∈ tb := inP (List.mem_of_getElem? (i := 12) rfl)
theorem kp_13 : Cond.selects "OldBeams" ⟨"OldBeams", "putWorth", "(II)V"⟩ ⟨"OldBeams", "putWorth", "(II)V"⟩ ∈ tb := inP (List.mem_of_getElem? (i := 13) rfl)
theorem kp_14 : Cond.selects "OldBeamsModel" ⟨"OldBeamsModel", "isBeam", "(I)Z"⟩ ⟨"OldBeamsModel", "isBeam", "(I)Z"⟩ ∈ tb := inP (List.mem_of_getElem? (i := 14) rfl)
theorem kp_15 : Cond.selects "OldBeamsModel" ⟨"OldBeamsModel", "layNow", "()V"⟩ ⟨"OldBeamsModel", "layNow", "()V"⟩ ∈ tb := inP (List.mem_of_getElem? (i := 15) rfl)
theorem kp_16 : Cond.selects "OldBeamsModel" ⟨"OldBeamsModel", "tryNow", "()V"⟩ ⟨"OldBeamsModel", "tryNow", "()V"⟩ ∈ tb := inP (List.mem_of_getElem? (i := 16) rfl)
theorem kp_17 : Cond.selects "OldBeamsModel" ⟨"OldBeamsModel", "layTried", "()V"⟩ ⟨"OldBeamsModel", "layTried", "()V"⟩ ∈ tb := inP (List.mem_of_getElem? (i := 17) rfl)
theorem kp_18 : Cond.selects "OldBeamsModel" ⟨"OldBeamsModel", "layDown", "()V"⟩ ⟨"OldBeamsModel", "layDown", "()V"⟩ ∈ tb := inP (List.mem_of_getElem? (i := 18) rfl)
theorem kp_19 : Cond.selects "OldBeamsModel" ⟨"OldBeamsModel", "layPush", "(I)V"⟩ ⟨"OldBeamsModel", "layPush", "(I)V"⟩ ∈ tb := inP (List.mem_of_getElem? (i := 19) rfl)
theorem kp_20 : Cond.selects "OldBeamsModel" ⟨"OldBeamsModel", "layGreat", "(I)V"⟩ ⟨"OldBeamsModel", "layGreat", "(I)V"⟩ ∈ tb := inP (List.mem_of_getElem? (i := 20) rfl)
theorem kp_21 : Cond.selects "OldBeamsModel" ⟨"OldBeamsModel", "bendingOf", "(II)J"⟩ ⟨"OldBeamsModel", "bendingOf", "(II)J"⟩ ∈ tb := inP (List.mem_of_getElem? (i := 21) rfl)
theorem kp_22 : Cond.selects "OldBeamsModel" ⟨"OldBeamsModel", "whole", "(I)I"⟩ ⟨"OldBeamsModel", "whole", "(I)I"⟩ ∈ tb := inP (List.mem_of_getElem? (i := 22) rfl)
theorem kp_23 : Cond.selects "OldBeamsModel" ⟨"OldBeamsModel", "downMany", "()I"⟩ ⟨"OldBeamsModel", "downMany", "()I"⟩ ∈ tb := inP (List.mem_of_getElem? (i := 23) rfl)
theorem kp_24 : Cond.selects "OldBeamsModel" ⟨"OldBeamsModel", "mayTell", "(IZ)I"⟩ ⟨"OldBeamsModel", "mayTell", "(IZ)I"⟩ ∈ tb := inP (List.mem_of_getElem? (i := 24) rfl)
theorem kp_25 : Cond.selects "OldBeamsModel" ⟨"OldBeamsModel", "isLifting", "(I)Z"⟩ ⟨"OldBeamsModel", "isLifting", "(I)Z"⟩ ∈ tb := inP (List.mem_of_getElem? (i := 25) rfl)
theorem kp_26 : Cond.selects "OldBeamsModel" ⟨"OldBeamsModel", "isHolding", "(II)Z"⟩ ⟨"OldBeamsModel", "isHolding", "(II)Z"⟩ ∈ tb := inP (List.mem_of_getElem? (i := 26) rfl)
theorem kp_27 : Cond.selects "OldBeamsModel" ⟨"OldBeamsModel", "looksAt", "(I)I"⟩ ⟨"OldBeamsModel", "looksAt", "(I)I"⟩ ∈ tb := inP (List.mem_of_getElem? (i := 27) rfl)
theorem kp_28 : Cond.selects "OldBeamsModel" ⟨"OldBeamsModel", "layOdds", "(II)V"⟩ ⟨"OldBeamsModel", "layOdds", "(II)V"⟩ ∈ tb := inP (List.mem_of_getElem? (i := 28) rfl)
theorem kp_29 : Cond.selects "OldBeamsModel" ⟨"OldBeamsModel", "takeLook", "(I)V"⟩ ⟨"OldBeamsModel", "takeLook", "(I)V"⟩ ∈ tb := inP (List.mem_of_getElem? (i := 29) rfl)
theorem kp_30 : Cond.selects "OldBeamsModel" ⟨"OldBeamsModel", "comes", "(III)I"⟩ ⟨"OldBeamsModel", "comes", "(III)I"⟩ ∈ tb := inP (List.mem_of_getElem? (i := 30) rfl)
theorem kp_31 : Cond.selects "OldBeamsModel" ⟨"OldBeamsModel", "shareOf", "(IIIZ)I"⟩ ⟨"OldBeamsModel", "shareOf", "(IIIZ)I"⟩ ∈ tb := inP (List.mem_of_getElem? (i := 31) rfl)
theorem kp_32 : Cond.selects "OldBeamsModel" ⟨"OldBeamsModel", "isStanding", "(IIZ)Z"⟩ ⟨"OldBeamsModel", "isStanding", "(IIZ)Z"⟩ ∈ tb := inP (List.mem_of_getElem? (i := 32) rfl)
theorem kp_33 : Cond.selects "OldBeamsModel" ⟨"OldBeamsModel", "layChance", "(II)V"⟩ ⟨"OldBeamsModel", "layChance", "(II)V"⟩ ∈ tb := inP (List.mem_of_getElem? (i := 33) rfl)
theorem kp_34 : Cond.selects "OldBeamsModel" ⟨"OldBeamsModel", "layFall", "(II)V"⟩ ⟨"OldBeamsModel", "layFall", "(II)V"⟩ ∈ tb := inP (List.mem_of_getElem? (i := 34) rfl)
theorem kp_35 : Cond.selects "OldBeamsModel" ⟨"OldBeamsModel", "firstFalling", "(I)I"⟩ ⟨"OldBeamsModel", "firstFalling", "(I)I"⟩ ∈ tb := inP (List.mem_of_getElem? (i := 35) rfl)
theorem kp_36 : Cond.selects "OldBeamsModel" ⟨"OldBeamsModel", "bestProps", "(I)I"⟩ ⟨"OldBeamsModel", "bestProps", "(I)I"⟩ ∈ tb := inP (List.mem_of_getElem? (i := 36) rfl)
theorem kp_37 : Cond.selects "OldBeamsModel" ⟨"OldBeamsModel", "least", "(JJ)J"⟩ ⟨"OldBeamsModel", "least", "(JJ)J"⟩ ∈ tb := inP (List.mem_of_getElem? (i := 37) rfl)
theorem kp_38 : Cond.selects "OldBeamsModel" ⟨"OldBeamsModel", "worthOf", "(II)J"⟩ ⟨"OldBeamsModel", "worthOf", "(II)J"⟩ ∈ tb := inP (List.mem_of_getElem? (i := 38) rfl)
end
section
abbrev b_F_init : ByteArray := prog_4_method_1_code
abbrev y_F_init : MethodName := ⟨"OldBeams$Frame", "<init>", "()V"⟩
theorem d_F_init_0 : decode b_F_init 0 = .ok (.aload_n 0, 1) := by decide +kernel
theorem d_F_init_1 : decode b_F_init 1 = .ok (.invokespecial 3, 3) := by decide +kernel
theorem d_F_init_4 : decode b_F_init 4 = .ok (.aload_n 0, 1) := by decide +kernel
theorem d_F_init_5 : decode b_F_init 5 = .ok (.iconst 4, 1) := by decide +kernel
theorem d_F_init_6 : decode b_F_init 6 = .ok (.iconst 3, 1) := by decide +kernel
theorem d_F_init_7 : decode b_F_init 7 = .ok (.multianewarray 9 2, 4) := by decide +kernel
theorem d_F_init_11 : decode b_F_init 11 = .ok (.putfield 11, 3) := by decide +kernel
theorem d_F_init_14 : decode b_F_init 14 = .ok (.aload_n 0, 1) := by decide +kernel
theorem d_F_init_15 : decode b_F_init 15 = .ok (.bipush 12, 2) := by decide +kernel
theorem d_F_init_17 : decode b_F_init 17 = .ok (.anewarray 16, 3) := by decide +kernel
theorem d_F_init_20 : decode b_F_init 20 = .ok (.putfield 18, 3) := by decide +kernel
theorem d_F_init_23 : decode b_F_init 23 = .ok (.aload_n 0, 1) := by decide +kernel
theorem d_F_init_24 : decode b_F_init 24 = .ok (.bipush 40, 2) := by decide +kernel
theorem d_F_init_26 : decode b_F_init 26 = .ok (.newarray .int, 2) := by decide +kernel
theorem d_F_init_28 : decode b_F_init 28 = .ok (.putfield 22, 3) := by decide +kernel
theorem d_F_init_31 : decode b_F_init 31 = .ok (.aload_n 0, 1) := by decide +kernel
theorem d_F_init_32 : decode b_F_init 32 = .ok (.bipush 40, 2) := by decide +kernel
theorem d_F_init_34 : decode b_F_init 34 = .ok (.newarray .int, 2) := by decide +kernel
theorem d_F_init_36 : decode b_F_init 36 = .ok (.putfield 26, 3) := by decide +kernel
theorem d_F_init_39 : decode b_F_init 39 = .ok (.aload_n 0, 1) := by decide +kernel
theorem d_F_init_40 : decode b_F_init 40 = .ok (.bipush 40, 2) := by decide +kernel
theorem d_F_init_42 : decode b_F_init 42 = .ok (.newarray .int, 2) := by decide +kernel
theorem d_F_init_44 : decode b_F_init 44 = .ok (.putfield 29, 3) := by decide +kernel
theorem d_F_init_47 : decode b_F_init 47 = .ok (.aload_n 0, 1) := by decide +kernel
theorem d_F_init_48 : decode b_F_init 48 = .ok (.bipush 40, 2) := by decide +kernel
theorem d_F_init_50 : decode b_F_init 50 = .ok (.newarray .boolean, 2) := by decide +kernel
theorem d_F_init_52 : decode b_F_init 52 = .ok (.putfield 32, 3) := by decide +kernel
theorem d_F_init_55 : decode b_F_init 55 = .ok (.aload_n 0, 1) := by decide +kernel
theorem d_F_init_56 : decode b_F_init 56 = .ok (.bipush 8, 2) := by decide +kernel
theorem d_F_init_58 : decode b_F_init 58 = .ok (.newarray .int, 2) := by decide +kernel
theorem d_F_init_60 : decode b_F_init 60 = .ok (.putfield 36, 3) := by decide +kernel
theorem d_F_init_63 : decode b_F_init 63 = .ok (.aload_n 0, 1) := by decide +kernel
theorem d_F_init_64 : decode b_F_init 64 = .ok (.bipush 8, 2) := by decide +kernel
theorem d_F_init_66 : decode b_F_init 66 = .ok (.newarray .int, 2) := by decide +kernel
theorem d_F_init_68 : decode b_F_init 68 = .ok (.putfield 39, 3) := by decide +kernel
theorem d_F_init_71 : decode b_F_init 71 = .ok (.aload_n 0, 1) := by decide +kernel
theorem d_F_init_72 : decode b_F_init 72 = .ok (.bipush 8, 2) := by decide +kernel
theorem d_F_init_74 : decode b_F_init 74 = .ok (.newarray .int, 2) := by decide +kernel
theorem d_F_init_76 : decode b_F_init 76 = .ok (.putfield 42, 3) := by decide +kernel
theorem d_F_init_79 : decode b_F_init 79 = .ok (.iconst 0, 1) := by decide +kernel
theorem d_F_init_80 : decode b_F_init 80 = .ok (.istore_n 1, 1) := by decide +kernel
theorem d_F_init_81 : decode b_F_init 81 = .ok (.iload_n 1, 1) := by decide +kernel
theorem d_F_init_82 : decode b_F_init 82 = .ok (.iconst 4, 1) := by decide +kernel
theorem d_F_init_83 : decode b_F_init 83 = .ok (.if_icmp .ge 28, 3) := by decide +kernel
theorem d_F_init_86 : decode b_F_init 86 = .ok (.aload_n 0, 1) := by decide +kernel
theorem d_F_init_87 : decode b_F_init 87 = .ok (.getfield 11, 3) := by decide +kernel
theorem d_F_init_90 : decode b_F_init 90 = .ok (.iload_n 1, 1) := by decide +kernel
theorem d_F_init_91 : decode b_F_init 91 = .ok (.aaload, 1) := by decide +kernel
theorem d_F_init_92 : decode b_F_init 92 = .ok (.iconst 0, 1) := by decide +kernel
theorem d_F_init_93 : decode b_F_init 93 = .ok (.bipush 100, 2) := by decide +kernel
theorem d_F_init_95 : decode b_F_init 95 = .ok (.iastore, 1) := by decide +kernel
theorem d_F_init_96 : decode b_F_init 96 = .ok (.aload_n 0, 1) := by decide +kernel
theorem d_F_init_97 : decode b_F_init 97 = .ok (.getfield 11, 3) := by decide +kernel
theorem d_F_init_100 : decode b_F_init 100 = .ok (.iload_n 1, 1) := by decide +kernel
theorem d_F_init_101 : decode b_F_init 101 = .ok (.aaload, 1) := by decide +kernel
theorem d_F_init_102 : decode b_F_init 102 = .ok (.iconst 2, 1) := by decide +kernel
theorem d_F_init_103 : decode b_F_init 103 = .ok (.iconst 1, 1) := by decide +kernel
theorem d_F_init_104 : decode b_F_init 104 = .ok (.iastore, 1) := by decide +kernel
theorem d_F_init_105 : decode b_F_init 105 = .ok (.iinc 1 1, 3) := by decide +kernel
theorem d_F_init_108 : decode b_F_init 108 = .ok (.goto (-27), 3) := by decide +kernel
theorem d_F_init_111 : decode b_F_init 111 = .ok (.iconst 0, 1) := by decide +kernel
theorem d_F_init_112 : decode b_F_init 112 = .ok (.istore_n 1, 1) := by decide +kernel
theorem d_F_init_113 : decode b_F_init 113 = .ok (.iload_n 1, 1) := by decide +kernel
theorem d_F_init_114 : decode b_F_init 114 = .ok (.bipush 12, 2) := by decide +kernel
theorem d_F_init_116 : decode b_F_init 116 = .ok (.if_icmp .ge 22, 3) := by decide +kernel
theorem d_F_init_119 : decode b_F_init 119 = .ok (.aload_n 0, 1) := by decide +kernel
theorem d_F_init_120 : decode b_F_init 120 = .ok (.getfield 18, 3) := by decide +kernel
theorem d_F_init_123 : decode b_F_init 123 = .ok (.iload_n 1, 1) := by decide +kernel
theorem d_F_init_124 : decode b_F_init 124 = .ok (.new 16, 3) := by decide +kernel
theorem d_F_init_127 : decode b_F_init 127 = .ok (.dup, 1) := by decide +kernel
theorem d_F_init_128 : decode b_F_init 128 = .ok (.invokespecial 45, 3) := by decide +kernel
theorem d_F_init_131 : decode b_F_init 131 = .ok (.aastore, 1) := by decide +kernel
theorem d_F_init_132 : decode b_F_init 132 = .ok (.iinc 1 1, 3) := by decide +kernel
theorem d_F_init_135 : decode b_F_init 135 = .ok (.goto (-22), 3) := by decide +kernel
theorem d_F_init_138 : decode b_F_init 138 = .ok (.return_, 1) := by decide +kernel
abbrev b_B_init : ByteArray := prog_2_method_1_code
abbrev y_B_init : MethodName := ⟨"OldBeams$Beam", "<init>", "()V"⟩
theorem d_B_init_0 : decode b_B_init 0 = .ok (.aload_n 0, 1) := by decide +kernel
theorem d_B_init_1 : decode b_B_init 1 = .ok (.invokespecial 3, 3) := by decide +kernel
theorem d_B_init_4 : decode b_B_init 4 = .ok (.aload_n 0, 1) := by decide +kernel
theorem d_B_init_5 : decode b_B_init 5 = .ok (.iconst 2, 1) := by decide +kernel
theorem d_B_init_6 : decode b_B_init 6 = .ok (.newarray .int, 2) := by decide +kernel
theorem d_B_init_8 : decode b_B_init 8 = .ok (.putfield 9, 3) := by decide +kernel
theorem d_B_init_11 : decode b_B_init 11 = .ok (.aload_n 0, 1) := by decide +kernel
theorem d_B_init_12 : decode b_B_init 12 = .ok (.iconst 2, 1) := by decide +kernel
theorem d_B_init_13 : decode b_B_init 13 = .ok (.newarray .int, 2) := by decide +kernel
theorem d_B_init_15 : decode b_B_init 15 = .ok (.putfield 15, 3) := by decide +kernel
theorem d_B_init_18 : decode b_B_init 18 = .ok (.aload_n 0, 1) := by decide +kernel
theorem d_B_init_19 : decode b_B_init 19 = .ok (.iconst 2, 1) := by decide +kernel
theorem d_B_init_20 : decode b_B_init 20 = .ok (.newarray .int, 2) := by decide +kernel
theorem d_B_init_22 : decode b_B_init 22 = .ok (.putfield 18, 3) := by decide +kernel
theorem d_B_init_25 : decode b_B_init 25 = .ok (.aload_n 0, 1) := by decide +kernel
theorem d_B_init_26 : decode b_B_init 26 = .ok (.bipush 61, 2) := by decide +kernel
theorem d_B_init_28 : decode b_B_init 28 = .ok (.newarray .long, 2) := by decide +kernel
theorem d_B_init_30 : decode b_B_init 30 = .ok (.putfield 21, 3) := by decide +kernel
theorem d_B_init_33 : decode b_B_init 33 = .ok (.aload_n 0, 1) := by decide +kernel
theorem d_B_init_34 : decode b_B_init 34 = .ok (.bipush 61, 2) := by decide +kernel
theorem d_B_init_36 : decode b_B_init 36 = .ok (.newarray .long, 2) := by decide +kernel
theorem d_B_init_38 : decode b_B_init 38 = .ok (.putfield 25, 3) := by decide +kernel
theorem d_B_init_41 : decode b_B_init 41 = .ok (.aload_n 0, 1) := by decide +kernel
theorem d_B_init_42 : decode b_B_init 42 = .ok (.iconst 2, 1) := by decide +kernel
theorem d_B_init_43 : decode b_B_init 43 = .ok (.newarray .long, 2) := by decide +kernel
theorem d_B_init_45 : decode b_B_init 45 = .ok (.putfield 28, 3) := by decide +kernel
theorem d_B_init_48 : decode b_B_init 48 = .ok (.return_, 1) := by decide +kernel
abbrev b_K_init : ByteArray := prog_5_method_1_code
abbrev y_K_init : MethodName := ⟨"OldBeams$Looks", "<init>", "()V"⟩
theorem d_K_init_0 : decode b_K_init 0 = .ok (.aload_n 0, 1) := by decide +kernel
theorem d_K_init_1 : decode b_K_init 1 = .ok (.invokespecial 3, 3) := by decide +kernel
theorem d_K_init_4 : decode b_K_init 4 = .ok (.aload_n 0, 1) := by decide +kernel
theorem d_K_init_5 : decode b_K_init 5 = .ok (.bipush 12, 2) := by decide +kernel
theorem d_K_init_7 : decode b_K_init 7 = .ok (.bipush 11, 2) := by decide +kernel
theorem d_K_init_9 : decode b_K_init 9 = .ok (.multianewarray 9 2, 4) := by decide +kernel
theorem d_K_init_13 : decode b_K_init 13 = .ok (.putfield 11, 3) := by decide +kernel
theorem d_K_init_16 : decode b_K_init 16 = .ok (.aload_n 0, 1) := by decide +kernel
theorem d_K_init_17 : decode b_K_init 17 = .ok (.iconst 4, 1) := by decide +kernel
theorem d_K_init_18 : decode b_K_init 18 = .ok (.bipush 11, 2) := by decide +kernel
theorem d_K_init_20 : decode b_K_init 20 = .ok (.multianewarray 9 2, 4) := by decide +kernel
theorem d_K_init_24 : decode b_K_init 24 = .ok (.putfield 16, 3) := by decide +kernel
theorem d_K_init_27 : decode b_K_init 27 = .ok (.aload_n 0, 1) := by decide +kernel
theorem d_K_init_28 : decode b_K_init 28 = .ok (.bipush 60, 2) := by decide +kernel
theorem d_K_init_30 : decode b_K_init 30 = .ok (.newarray .int, 2) := by decide +kernel
theorem d_K_init_32 : decode b_K_init 32 = .ok (.putfield 19, 3) := by decide +kernel
theorem d_K_init_35 : decode b_K_init 35 = .ok (.aload_n 0, 1) := by decide +kernel
theorem d_K_init_36 : decode b_K_init 36 = .ok (.bipush 60, 2) := by decide +kernel
theorem d_K_init_38 : decode b_K_init 38 = .ok (.newarray .int, 2) := by decide +kernel
theorem d_K_init_40 : decode b_K_init 40 = .ok (.putfield 23, 3) := by decide +kernel
theorem d_K_init_43 : decode b_K_init 43 = .ok (.aload_n 0, 1) := by decide +kernel
theorem d_K_init_44 : decode b_K_init 44 = .ok (.bipush 60, 2) := by decide +kernel
theorem d_K_init_46 : decode b_K_init 46 = .ok (.newarray .int, 2) := by decide +kernel
theorem d_K_init_48 : decode b_K_init 48 = .ok (.putfield 26, 3) := by decide +kernel
theorem d_K_init_51 : decode b_K_init 51 = .ok (.aload_n 0, 1) := by decide +kernel
theorem d_K_init_52 : decode b_K_init 52 = .ok (.bipush 60, 2) := by decide +kernel
theorem d_K_init_54 : decode b_K_init 54 = .ok (.newarray .int, 2) := by decide +kernel
theorem d_K_init_56 : decode b_K_init 56 = .ok (.putfield 29, 3) := by decide +kernel
theorem d_K_init_59 : decode b_K_init 59 = .ok (.aload_n 0, 1) := by decide +kernel
theorem d_K_init_60 : decode b_K_init 60 = .ok (.bipush 11, 2) := by decide +kernel
theorem d_K_init_62 : decode b_K_init 62 = .ok (.newarray .long, 2) := by decide +kernel
theorem d_K_init_64 : decode b_K_init 64 = .ok (.putfield 32, 3) := by decide +kernel
theorem d_K_init_67 : decode b_K_init 67 = .ok (.aload_n 0, 1) := by decide +kernel
theorem d_K_init_68 : decode b_K_init 68 = .ok (.bipush 11, 2) := by decide +kernel
theorem d_K_init_70 : decode b_K_init 70 = .ok (.newarray .long, 2) := by decide +kernel
theorem d_K_init_72 : decode b_K_init 72 = .ok (.putfield 36, 3) := by decide +kernel
theorem d_K_init_75 : decode b_K_init 75 = .ok (.iconst 0, 1) := by decide +kernel
theorem d_K_init_76 : decode b_K_init 76 = .ok (.istore_n 1, 1) := by decide +kernel
theorem d_K_init_77 : decode b_K_init 77 = .ok (.iload_n 1, 1) := by decide +kernel
theorem d_K_init_78 : decode b_K_init 78 = .ok (.bipush 12, 2) := by decide +kernel
theorem d_K_init_80 : decode b_K_init 80 = .ok (.if_icmp .ge 32, 3) := by decide +kernel
theorem d_K_init_83 : decode b_K_init 83 = .ok (.iconst 0, 1) := by decide +kernel
theorem d_K_init_84 : decode b_K_init 84 = .ok (.istore_n 2, 1) := by decide +kernel
theorem d_K_init_85 : decode b_K_init 85 = .ok (.iload_n 2, 1) := by decide +kernel
theorem d_K_init_86 : decode b_K_init 86 = .ok (.bipush 11, 2) := by decide +kernel
theorem d_K_init_88 : decode b_K_init 88 = .ok (.if_icmp .ge 18, 3) := by decide +kernel
theorem d_K_init_91 : decode b_K_init 91 = .ok (.aload_n 0, 1) := by decide +kernel
theorem d_K_init_92 : decode b_K_init 92 = .ok (.getfield 11, 3) := by decide +kernel
theorem d_K_init_95 : decode b_K_init 95 = .ok (.iload_n 1, 1) := by decide +kernel
theorem d_K_init_96 : decode b_K_init 96 = .ok (.aaload, 1) := by decide +kernel
theorem d_K_init_97 : decode b_K_init 97 = .ok (.iload_n 2, 1) := by decide +kernel
theorem d_K_init_98 : decode b_K_init 98 = .ok (.iconst 1, 1) := by decide +kernel
theorem d_K_init_99 : decode b_K_init 99 = .ok (.iastore, 1) := by decide +kernel
theorem d_K_init_100 : decode b_K_init 100 = .ok (.iinc 2 1, 3) := by decide +kernel
theorem d_K_init_103 : decode b_K_init 103 = .ok (.goto (-18), 3) := by decide +kernel
theorem d_K_init_106 : decode b_K_init 106 = .ok (.iinc 1 1, 3) := by decide +kernel
theorem d_K_init_109 : decode b_K_init 109 = .ok (.goto (-32), 3) := by decide +kernel
theorem d_K_init_112 : decode b_K_init 112 = .ok (.return_, 1) := by decide +kernel
abbrev b_Q_init : ByteArray := prog_3_method_1_code
abbrev y_Q_init : MethodName := ⟨"OldBeams$Fraction", "<init>", "()V"⟩
theorem d_Q_init_0 : decode b_Q_init 0 = .ok (.aload_n 0, 1) := by decide +kernel
theorem d_Q_init_1 : decode b_Q_init 1 = .ok (.invokespecial 1, 3) := by decide +kernel
theorem d_Q_init_4 : decode b_Q_init 4 = .ok (.aload_n 0, 1) := by decide +kernel
theorem d_Q_init_5 : decode b_Q_init 5 = .ok (.lconst 0, 1) := by decide +kernel
theorem d_Q_init_6 : decode b_Q_init 6 = .ok (.putfield 7, 3) := by decide +kernel
theorem d_Q_init_9 : decode b_Q_init 9 = .ok (.aload_n 0, 1) := by decide +kernel
theorem d_Q_init_10 : decode b_Q_init 10 = .ok (.lconst 1, 1) := by decide +kernel
theorem d_Q_init_11 : decode b_Q_init 11 = .ok (.putfield 13, 3) := by decide +kernel
theorem d_Q_init_14 : decode b_Q_init 14 = .ok (.return_, 1) := by decide +kernel
abbrev b_F_addBeam : ByteArray := prog_4_method_4_code
abbrev y_F_addBeam : MethodName := ⟨"OldBeams$Frame", "addBeam", "(IIII)I"⟩
theorem d_F_addBeam_0 : decode b_F_addBeam 0 = .ok (.aload_n 0, 1) := by decide +kernel
theorem d_F_addBeam_1 : decode b_F_addBeam 1 = .ok (.getfield 46, 3) := by decide +kernel
theorem d_F_addBeam_4 : decode b_F_addBeam 4 = .ok (.istore 5, 2) := by decide +kernel
theorem d_F_addBeam_6 : decode b_F_addBeam 6 = .ok (.aload_n 0, 1) := by decide +kernel
theorem d_F_addBeam_7 : decode b_F_addBeam 7 = .ok (.getfield 18, 3) := by decide +kernel
theorem d_F_addBeam_10 : decode b_F_addBeam 10 = .ok (.iload 5, 2) := by decide +kernel
theorem d_F_addBeam_12 : decode b_F_addBeam 12 = .ok (.aaload, 1) := by decide +kernel
theorem d_F_addBeam_13 : decode b_F_addBeam 13 = .ok (.iload_n 1, 1) := by decide +kernel
theorem d_F_addBeam_14 : decode b_F_addBeam 14 = .ok (.iload_n 2, 1) := by decide +kernel
theorem d_F_addBeam_15 : decode b_F_addBeam 15 = .ok (.iload_n 3, 1) := by decide +kernel
theorem d_F_addBeam_16 : decode b_F_addBeam 16 = .ok (.iload 4, 2) := by decide +kernel
theorem d_F_addBeam_18 : decode b_F_addBeam 18 = .ok (.invokevirtual 61, 3) := by decide +kernel
theorem d_F_addBeam_21 : decode b_F_addBeam 21 = .ok (.aload_n 0, 1) := by decide +kernel
theorem d_F_addBeam_22 : decode b_F_addBeam 22 = .ok (.iload 5, 2) := by decide +kernel
theorem d_F_addBeam_24 : decode b_F_addBeam 24 = .ok (.iconst 1, 1) := by decide +kernel
theorem d_F_addBeam_25 : decode b_F_addBeam 25 = .ok (.iadd, 1) := by decide +kernel
theorem d_F_addBeam_26 : decode b_F_addBeam 26 = .ok (.putfield 46, 3) := by decide +kernel
theorem d_F_addBeam_29 : decode b_F_addBeam 29 = .ok (.iload 5, 2) := by decide +kernel
theorem d_F_addBeam_31 : decode b_F_addBeam 31 = .ok (.ireturn, 1) := by decide +kernel
abbrev b_B_begin : ByteArray := prog_2_method_2_code
abbrev y_B_begin : MethodName := ⟨"OldBeams$Beam", "begin", "(IIII)V"⟩
theorem d_B_begin_0 : decode b_B_begin 0 = .ok (.aload_n 0, 1) := by decide +kernel
theorem d_B_begin_1 : decode b_B_begin 1 = .ok (.iload_n 1, 1) := by decide +kernel
theorem d_B_begin_2 : decode b_B_begin 2 = .ok (.putfield 31, 3) := by decide +kernel
theorem d_B_begin_5 : decode b_B_begin 5 = .ok (.aload_n 0, 1) := by decide +kernel
theorem d_B_begin_6 : decode b_B_begin 6 = .ok (.iload_n 2, 1) := by decide +kernel
theorem d_B_begin_7 : decode b_B_begin 7 = .ok (.putfield 35, 3) := by decide +kernel
theorem d_B_begin_10 : decode b_B_begin 10 = .ok (.aload_n 0, 1) := by decide +kernel
theorem d_B_begin_11 : decode b_B_begin 11 = .ok (.iload_n 3, 1) := by decide +kernel
theorem d_B_begin_12 : decode b_B_begin 12 = .ok (.putfield 38, 3) := by decide +kernel
theorem d_B_begin_15 : decode b_B_begin 15 = .ok (.aload_n 0, 1) := by decide +kernel
theorem d_B_begin_16 : decode b_B_begin 16 = .ok (.iload 4, 2) := by decide +kernel
theorem d_B_begin_18 : decode b_B_begin 18 = .ok (.putfield 41, 3) := by decide +kernel
theorem d_B_begin_21 : decode b_B_begin 21 = .ok (.aload_n 0, 1) := by decide +kernel
theorem d_B_begin_22 : decode b_B_begin 22 = .ok (.iconst 0, 1) := by decide +kernel
theorem d_B_begin_23 : decode b_B_begin 23 = .ok (.iconst 0, 1) := by decide +kernel
theorem d_B_begin_24 : decode b_B_begin 24 = .ok (.ldc 44, 2) := by decide +kernel
theorem d_B_begin_26 : decode b_B_begin 26 = .ok (.iconst 0, 1) := by decide +kernel
theorem d_B_begin_27 : decode b_B_begin 27 = .ok (.invokevirtual 45, 3) := by decide +kernel
theorem d_B_begin_30 : decode b_B_begin 30 = .ok (.aload_n 0, 1) := by decide +kernel
theorem d_B_begin_31 : decode b_B_begin 31 = .ok (.iconst 1, 1) := by decide +kernel
theorem d_B_begin_32 : decode b_B_begin 32 = .ok (.iload_n 2, 1) := by decide +kernel
theorem d_B_begin_33 : decode b_B_begin 33 = .ok (.ldc 44, 2) := by decide +kernel
theorem d_B_begin_35 : decode b_B_begin 35 = .ok (.iconst 0, 1) := by decide +kernel
theorem d_B_begin_36 : decode b_B_begin 36 = .ok (.invokevirtual 45, 3) := by decide +kernel
theorem d_B_begin_39 : decode b_B_begin 39 = .ok (.return_, 1) := by decide +kernel
abbrev b_B_putSeat : ByteArray := prog_2_method_4_code
abbrev y_B_putSeat : MethodName := ⟨"OldBeams$Beam", "putSeat", "(IIII)V"⟩
theorem d_B_putSeat_0 : decode b_B_putSeat 0 = .ok (.aload_n 0, 1) := by decide +kernel
theorem d_B_putSeat_1 : decode b_B_putSeat 1 = .ok (.getfield 9, 3) := by decide +kernel
theorem d_B_putSeat_4 : decode b_B_putSeat 4 = .ok (.iload_n 1, 1) := by decide +kernel
theorem d_B_putSeat_5 : decode b_B_putSeat 5 = .ok (.iload_n 2, 1) := by decide +kernel
theorem d_B_putSeat_6 : decode b_B_putSeat 6 = .ok (.iastore, 1) := by decide +kernel
theorem d_B_putSeat_7 : decode b_B_putSeat 7 = .ok (.aload_n 0, 1) := by decide +kernel
theorem d_B_putSeat_8 : decode b_B_putSeat 8 = .ok (.getfield 15, 3) := by decide +kernel
theorem d_B_putSeat_11 : decode b_B_putSeat 11 = .ok (.iload_n 1, 1) := by decide +kernel
theorem d_B_putSeat_12 : decode b_B_putSeat 12 = .ok (.iload_n 3, 1) := by decide +kernel
theorem d_B_putSeat_13 : decode b_B_putSeat 13 = .ok (.iastore, 1) := by decide +kernel
theorem d_B_putSeat_14 : decode b_B_putSeat 14 = .ok (.aload_n 0, 1) := by decide +kernel
theorem d_B_putSeat_15 : decode b_B_putSeat 15 = .ok (.getfield 18, 3) := by decide +kernel
theorem d_B_putSeat_18 : decode b_B_putSeat 18 = .ok (.iload_n 1, 1) := by decide +kernel
theorem d_B_putSeat_19 : decode b_B_putSeat 19 = .ok (.iload_n 3, 1) := by decide +kernel
theorem d_B_putSeat_20 : decode b_B_putSeat 20 = .ok (.ldc 44, 2) := by decide +kernel
theorem d_B_putSeat_22 : decode b_B_putSeat 22 = .ok (.if_icmp .ne 7, 3) := by decide +kernel
theorem d_B_putSeat_25 : decode b_B_putSeat 25 = .ok (.iconst 0, 1) := by decide +kernel
theorem d_B_putSeat_26 : decode b_B_putSeat 26 = .ok (.goto 5, 3) := by decide +kernel
theorem d_B_putSeat_29 : decode b_B_putSeat 29 = .ok (.iload 4, 2) := by decide +kernel
theorem d_B_putSeat_31 : decode b_B_putSeat 31 = .ok (.iastore, 1) := by decide +kernel
theorem d_B_putSeat_32 : decode b_B_putSeat 32 = .ok (.return_, 1) := by decide +kernel
abbrev b_F_hasBeam : ByteArray := prog_4_method_2_code
abbrev y_F_hasBeam : MethodName := ⟨"OldBeams$Frame", "hasBeam", "(I)Z"⟩
theorem d_F_hasBeam_0 : decode b_F_hasBeam 0 = .ok (.iload_n 1, 1) := by decide +kernel
theorem d_F_hasBeam_1 : decode b_F_hasBeam 1 = .ok (.iconst 0, 1) := by decide +kernel
theorem d_F_hasBeam_2 : decode b_F_hasBeam 2 = .ok (.aload_n 0, 1) := by decide +kernel
theorem d_F_hasBeam_3 : decode b_F_hasBeam 3 = .ok (.getfield 46, 3) := by decide +kernel
theorem d_F_hasBeam_6 : decode b_F_hasBeam 6 = .ok (.iconst 1, 1) := by decide +kernel
theorem d_F_hasBeam_7 : decode b_F_hasBeam 7 = .ok (.isub, 1) := by decide +kernel
theorem d_F_hasBeam_8 : decode b_F_hasBeam 8 = .ok (.invokestatic 50, 3) := by decide +kernel
theorem d_F_hasBeam_11 : decode b_F_hasBeam 11 = .ok (.ireturn, 1) := by decide +kernel
abbrev b_F_hasPlace : ByteArray := prog_4_method_3_code
abbrev y_F_hasPlace : MethodName := ⟨"OldBeams$Frame", "hasPlace", "(II)Z"⟩
theorem d_F_hasPlace_0 : decode b_F_hasPlace 0 = .ok (.aload_n 0, 1) := by decide +kernel
theorem d_F_hasPlace_1 : decode b_F_hasPlace 1 = .ok (.iload_n 1, 1) := by decide +kernel
theorem d_F_hasPlace_2 : decode b_F_hasPlace 2 = .ok (.invokevirtual 54, 3) := by decide +kernel
theorem d_F_hasPlace_5 : decode b_F_hasPlace 5 = .ok (.ifCond .eq 24, 3) := by decide +kernel
theorem d_F_hasPlace_8 : decode b_F_hasPlace 8 = .ok (.iload_n 2, 1) := by decide +kernel
theorem d_F_hasPlace_9 : decode b_F_hasPlace 9 = .ok (.iconst 0, 1) := by decide +kernel
theorem d_F_hasPlace_10 : decode b_F_hasPlace 10 = .ok (.aload_n 0, 1) := by decide +kernel
theorem d_F_hasPlace_11 : decode b_F_hasPlace 11 = .ok (.getfield 18, 3) := by decide +kernel
theorem d_F_hasPlace_14 : decode b_F_hasPlace 14 = .ok (.iload_n 1, 1) := by decide +kernel
theorem d_F_hasPlace_15 : decode b_F_hasPlace 15 = .ok (.aaload, 1) := by decide +kernel
theorem d_F_hasPlace_16 : decode b_F_hasPlace 16 = .ok (.getfield 58, 3) := by decide +kernel
theorem d_F_hasPlace_19 : decode b_F_hasPlace 19 = .ok (.invokestatic 50, 3) := by decide +kernel
theorem d_F_hasPlace_22 : decode b_F_hasPlace 22 = .ok (.ifCond .eq 7, 3) := by decide +kernel
theorem d_F_hasPlace_25 : decode b_F_hasPlace 25 = .ok (.iconst 1, 1) := by decide +kernel
theorem d_F_hasPlace_26 : decode b_F_hasPlace 26 = .ok (.goto 4, 3) := by decide +kernel
theorem d_F_hasPlace_29 : decode b_F_hasPlace 29 = .ok (.iconst 0, 1) := by decide +kernel
theorem d_F_hasPlace_30 : decode b_F_hasPlace 30 = .ok (.ireturn, 1) := by decide +kernel
abbrev b_B_mayPutSeat : ByteArray := prog_2_method_3_code
abbrev y_B_mayPutSeat : MethodName := ⟨"OldBeams$Beam", "mayPutSeat", "(II)Z"⟩
theorem d_B_mayPutSeat_0 : decode b_B_mayPutSeat 0 = .ok (.iload_n 1, 1) := by decide +kernel
theorem d_B_mayPutSeat_1 : decode b_B_mayPutSeat 1 = .ok (.ifCond .ne 7, 3) := by decide +kernel
theorem d_B_mayPutSeat_4 : decode b_B_mayPutSeat 4 = .ok (.iload_n 2, 1) := by decide +kernel
theorem d_B_mayPutSeat_5 : decode b_B_mayPutSeat 5 = .ok (.goto 9, 3) := by decide +kernel
theorem d_B_mayPutSeat_8 : decode b_B_mayPutSeat 8 = .ok (.aload_n 0, 1) := by decide +kernel
theorem d_B_mayPutSeat_9 : decode b_B_mayPutSeat 9 = .ok (.getfield 9, 3) := by decide +kernel
theorem d_B_mayPutSeat_12 : decode b_B_mayPutSeat 12 = .ok (.iconst 0, 1) := by decide +kernel
theorem d_B_mayPutSeat_13 : decode b_B_mayPutSeat 13 = .ok (.iaload, 1) := by decide +kernel
theorem d_B_mayPutSeat_14 : decode b_B_mayPutSeat 14 = .ok (.istore_n 3, 1) := by decide +kernel
theorem d_B_mayPutSeat_15 : decode b_B_mayPutSeat 15 = .ok (.iload_n 1, 1) := by decide +kernel
theorem d_B_mayPutSeat_16 : decode b_B_mayPutSeat 16 = .ok (.iconst 1, 1) := by decide +kernel
theorem d_B_mayPutSeat_17 : decode b_B_mayPutSeat 17 = .ok (.if_icmp .ne 7, 3) := by decide +kernel
theorem d_B_mayPutSeat_20 : decode b_B_mayPutSeat 20 = .ok (.iload_n 2, 1) := by decide +kernel
theorem d_B_mayPutSeat_21 : decode b_B_mayPutSeat 21 = .ok (.goto 9, 3) := by decide +kernel
theorem d_B_mayPutSeat_24 : decode b_B_mayPutSeat 24 = .ok (.aload_n 0, 1) := by decide +kernel
theorem d_B_mayPutSeat_25 : decode b_B_mayPutSeat 25 = .ok (.getfield 9, 3) := by decide +kernel
theorem d_B_mayPutSeat_28 : decode b_B_mayPutSeat 28 = .ok (.iconst 1, 1) := by decide +kernel
theorem d_B_mayPutSeat_29 : decode b_B_mayPutSeat 29 = .ok (.iaload, 1) := by decide +kernel
theorem d_B_mayPutSeat_30 : decode b_B_mayPutSeat 30 = .ok (.istore 4, 2) := by decide +kernel
theorem d_B_mayPutSeat_32 : decode b_B_mayPutSeat 32 = .ok (.iconst 3, 1) := by decide +kernel
theorem d_B_mayPutSeat_33 : decode b_B_mayPutSeat 33 = .ok (.iload 4, 2) := by decide +kernel
theorem d_B_mayPutSeat_35 : decode b_B_mayPutSeat 35 = .ok (.iload_n 3, 1) := by decide +kernel
theorem d_B_mayPutSeat_36 : decode b_B_mayPutSeat 36 = .ok (.isub, 1) := by decide +kernel
theorem d_B_mayPutSeat_37 : decode b_B_mayPutSeat 37 = .ok (.imul, 1) := by decide +kernel
theorem d_B_mayPutSeat_38 : decode b_B_mayPutSeat 38 = .ok (.aload_n 0, 1) := by decide +kernel
theorem d_B_mayPutSeat_39 : decode b_B_mayPutSeat 39 = .ok (.getfield 35, 3) := by decide +kernel
theorem d_B_mayPutSeat_42 : decode b_B_mayPutSeat 42 = .ok (.if_icmp .lt 7, 3) := by decide +kernel
theorem d_B_mayPutSeat_45 : decode b_B_mayPutSeat 45 = .ok (.iconst 1, 1) := by decide +kernel
theorem d_B_mayPutSeat_46 : decode b_B_mayPutSeat 46 = .ok (.goto 4, 3) := by decide +kernel
theorem d_B_mayPutSeat_49 : decode b_B_mayPutSeat 49 = .ok (.iconst 0, 1) := by decide +kernel
theorem d_B_mayPutSeat_50 : decode b_B_mayPutSeat 50 = .ok (.ireturn, 1) := by decide +kernel
abbrev b_F_wholeStrength : ByteArray := prog_4_method_17_code
abbrev y_F_wholeStrength : MethodName := ⟨"OldBeams$Frame", "wholeStrength", "(I)I"⟩
theorem d_F_wholeStrength_0 : decode b_F_wholeStrength 0 = .ok (.aload_n 0, 1) := by decide +kernel
theorem d_F_wholeStrength_1 : decode b_F_wholeStrength 1 = .ok (.getfield 18, 3) := by decide +kernel
theorem d_F_wholeStrength_4 : decode b_F_wholeStrength 4 = .ok (.iload_n 1, 1) := by decide +kernel
theorem d_F_wholeStrength_5 : decode b_F_wholeStrength 5 = .ok (.aaload, 1) := by decide +kernel
theorem d_F_wholeStrength_6 : decode b_F_wholeStrength 6 = .ok (.astore_n 2, 1) := by decide +kernel
theorem d_F_wholeStrength_7 : decode b_F_wholeStrength 7 = .ok (.aload_n 0, 1) := by decide +kernel
theorem d_F_wholeStrength_8 : decode b_F_wholeStrength 8 = .ok (.getfield 11, 3) := by decide +kernel
theorem d_F_wholeStrength_11 : decode b_F_wholeStrength 11 = .ok (.aload_n 2, 1) := by decide +kernel
theorem d_F_wholeStrength_12 : decode b_F_wholeStrength 12 = .ok (.getfield 129, 3) := by decide +kernel
theorem d_F_wholeStrength_15 : decode b_F_wholeStrength 15 = .ok (.aaload, 1) := by decide +kernel
theorem d_F_wholeStrength_16 : decode b_F_wholeStrength 16 = .ok (.iconst 0, 1) := by decide +kernel
theorem d_F_wholeStrength_17 : decode b_F_wholeStrength 17 = .ok (.iaload, 1) := by decide +kernel
theorem d_F_wholeStrength_18 : decode b_F_wholeStrength 18 = .ok (.aload_n 2, 1) := by decide +kernel
theorem d_F_wholeStrength_19 : decode b_F_wholeStrength 19 = .ok (.getfield 132, 3) := by decide +kernel
theorem d_F_wholeStrength_22 : decode b_F_wholeStrength 22 = .ok (.imul, 1) := by decide +kernel
theorem d_F_wholeStrength_23 : decode b_F_wholeStrength 23 = .ok (.aload_n 2, 1) := by decide +kernel
theorem d_F_wholeStrength_24 : decode b_F_wholeStrength 24 = .ok (.getfield 135, 3) := by decide +kernel
theorem d_F_wholeStrength_27 : decode b_F_wholeStrength 27 = .ok (.imul, 1) := by decide +kernel
theorem d_F_wholeStrength_28 : decode b_F_wholeStrength 28 = .ok (.aload_n 2, 1) := by decide +kernel
theorem d_F_wholeStrength_29 : decode b_F_wholeStrength 29 = .ok (.getfield 135, 3) := by decide +kernel
theorem d_F_wholeStrength_32 : decode b_F_wholeStrength 32 = .ok (.imul, 1) := by decide +kernel
theorem d_F_wholeStrength_33 : decode b_F_wholeStrength 33 = .ok (.bipush 100, 2) := by decide +kernel
theorem d_F_wholeStrength_35 : decode b_F_wholeStrength 35 = .ok (.idiv, 1) := by decide +kernel
theorem d_F_wholeStrength_36 : decode b_F_wholeStrength 36 = .ok (.ireturn, 1) := by decide +kernel
abbrev b_F_isDown : ByteArray := prog_4_method_12_code
abbrev y_F_isDown : MethodName := ⟨"OldBeams$Frame", "isDown", "(I)Z"⟩
theorem d_F_isDown_0 : decode b_F_isDown 0 = .ok (.aload_n 0, 1) := by decide +kernel
theorem d_F_isDown_1 : decode b_F_isDown 1 = .ok (.aload_n 0, 1) := by decide +kernel
theorem d_F_isDown_2 : decode b_F_isDown 2 = .ok (.getfield 86, 3) := by decide +kernel
theorem d_F_isDown_5 : decode b_F_isDown 5 = .ok (.invokevirtual 89, 3) := by decide +kernel
theorem d_F_isDown_8 : decode b_F_isDown 8 = .ok (.iload_n 1, 1) := by decide +kernel
theorem d_F_isDown_9 : decode b_F_isDown 9 = .ok (.invokestatic 83, 3) := by decide +kernel
theorem d_F_isDown_12 : decode b_F_isDown 12 = .ok (.ireturn, 1) := by decide +kernel
abbrev b_F_downBy : ByteArray := prog_4_method_10_code
abbrev y_F_downBy : MethodName := ⟨"OldBeams$Frame", "downBy", "(I)I"⟩
theorem d_F_downBy_0 : decode b_F_downBy 0 = .ok (.iload_n 1, 1) := by decide +kernel
theorem d_F_downBy_1 : decode b_F_downBy 1 = .ok (.istore_n 2, 1) := by decide +kernel
theorem d_F_downBy_2 : decode b_F_downBy 2 = .ok (.iconst 0, 1) := by decide +kernel
theorem d_F_downBy_3 : decode b_F_downBy 3 = .ok (.istore_n 3, 1) := by decide +kernel
theorem d_F_downBy_4 : decode b_F_downBy 4 = .ok (.iload_n 3, 1) := by decide +kernel
theorem d_F_downBy_5 : decode b_F_downBy 5 = .ok (.aload_n 0, 1) := by decide +kernel
theorem d_F_downBy_6 : decode b_F_downBy 6 = .ok (.getfield 46, 3) := by decide +kernel
theorem d_F_downBy_9 : decode b_F_downBy 9 = .ok (.if_icmp .ge 51, 3) := by decide +kernel
theorem d_F_downBy_12 : decode b_F_downBy 12 = .ok (.aload_n 0, 1) := by decide +kernel
theorem d_F_downBy_13 : decode b_F_downBy 13 = .ok (.getfield 18, 3) := by decide +kernel
theorem d_F_downBy_16 : decode b_F_downBy 16 = .ok (.iload_n 3, 1) := by decide +kernel
theorem d_F_downBy_17 : decode b_F_downBy 17 = .ok (.aaload, 1) := by decide +kernel
theorem d_F_downBy_18 : decode b_F_downBy 18 = .ok (.astore 4, 2) := by decide +kernel
theorem d_F_downBy_20 : decode b_F_downBy 20 = .ok (.aload 4, 2) := by decide +kernel
theorem d_F_downBy_22 : decode b_F_downBy 22 = .ok (.getfield 75, 3) := by decide +kernel
theorem d_F_downBy_25 : decode b_F_downBy 25 = .ok (.iconst 0, 1) := by decide +kernel
theorem d_F_downBy_26 : decode b_F_downBy 26 = .ok (.iaload, 1) := by decide +kernel
theorem d_F_downBy_27 : decode b_F_downBy 27 = .ok (.iload_n 2, 1) := by decide +kernel
theorem d_F_downBy_28 : decode b_F_downBy 28 = .ok (.invokestatic 78, 3) := by decide +kernel
theorem d_F_downBy_31 : decode b_F_downBy 31 = .ok (.ifCond .ne 17, 3) := by decide +kernel
theorem d_F_downBy_34 : decode b_F_downBy 34 = .ok (.aload 4, 2) := by decide +kernel
theorem d_F_downBy_36 : decode b_F_downBy 36 = .ok (.getfield 75, 3) := by decide +kernel
theorem d_F_downBy_39 : decode b_F_downBy 39 = .ok (.iconst 1, 1) := by decide +kernel
theorem d_F_downBy_40 : decode b_F_downBy 40 = .ok (.iaload, 1) := by decide +kernel
theorem d_F_downBy_41 : decode b_F_downBy 41 = .ok (.iload_n 2, 1) := by decide +kernel
theorem d_F_downBy_42 : decode b_F_downBy 42 = .ok (.invokestatic 78, 3) := by decide +kernel
theorem d_F_downBy_45 : decode b_F_downBy 45 = .ok (.ifCond .eq 9, 3) := by decide +kernel
theorem d_F_downBy_48 : decode b_F_downBy 48 = .ok (.iload_n 2, 1) := by decide +kernel
theorem d_F_downBy_49 : decode b_F_downBy 49 = .ok (.iconst 1, 1) := by decide +kernel
theorem d_F_downBy_50 : decode b_F_downBy 50 = .ok (.iload_n 3, 1) := by decide +kernel
theorem d_F_downBy_51 : decode b_F_downBy 51 = .ok (.ishl, 1) := by decide +kernel
theorem d_F_downBy_52 : decode b_F_downBy 52 = .ok (.ior, 1) := by decide +kernel
theorem d_F_downBy_53 : decode b_F_downBy 53 = .ok (.istore_n 2, 1) := by decide +kernel
theorem d_F_downBy_54 : decode b_F_downBy 54 = .ok (.iinc 3 1, 3) := by decide +kernel
theorem d_F_downBy_57 : decode b_F_downBy 57 = .ok (.goto (-53), 3) := by decide +kernel
theorem d_F_downBy_60 : decode b_F_downBy 60 = .ok (.iload_n 2, 1) := by decide +kernel
theorem d_F_downBy_61 : decode b_F_downBy 61 = .ok (.ireturn, 1) := by decide +kernel
abbrev b_F_restsOn : ByteArray := prog_4_method_11_code
abbrev y_F_restsOn : MethodName := ⟨"OldBeams$Frame", "restsOn", "(II)Z"⟩
theorem d_F_restsOn_0 : decode b_F_restsOn 0 = .ok (.iload_n 0, 1) := by decide +kernel
theorem d_F_restsOn_1 : decode b_F_restsOn 1 = .ok (.ldc 82, 2) := by decide +kernel
theorem d_F_restsOn_3 : decode b_F_restsOn 3 = .ok (.if_icmp .eq 15, 3) := by decide +kernel
theorem d_F_restsOn_6 : decode b_F_restsOn 6 = .ok (.iload_n 1, 1) := by decide +kernel
theorem d_F_restsOn_7 : decode b_F_restsOn 7 = .ok (.iload_n 0, 1) := by decide +kernel
theorem d_F_restsOn_8 : decode b_F_restsOn 8 = .ok (.invokestatic 83, 3) := by decide +kernel
theorem d_F_restsOn_11 : decode b_F_restsOn 11 = .ok (.ifCond .eq 7, 3) := by decide +kernel
theorem d_F_restsOn_14 : decode b_F_restsOn 14 = .ok (.iconst 1, 1) := by decide +kernel
theorem d_F_restsOn_15 : decode b_F_restsOn 15 = .ok (.goto 4, 3) := by decide +kernel
theorem d_F_restsOn_18 : decode b_F_restsOn 18 = .ok (.iconst 0, 1) := by decide +kernel
theorem d_F_restsOn_19 : decode b_F_restsOn 19 = .ok (.ireturn, 1) := by decide +kernel
abbrev b_F_addLoad : ByteArray := prog_4_method_5_code
abbrev y_F_addLoad : MethodName := ⟨"OldBeams$Frame", "addLoad", "(III)I"⟩
theorem d_F_addLoad_0 : decode b_F_addLoad 0 = .ok (.aload_n 0, 1) := by decide +kernel
theorem d_F_addLoad_1 : decode b_F_addLoad 1 = .ok (.getfield 65, 3) := by decide +kernel
theorem d_F_addLoad_4 : decode b_F_addLoad 4 = .ok (.istore 4, 2) := by decide +kernel
theorem d_F_addLoad_6 : decode b_F_addLoad 6 = .ok (.aload_n 0, 1) := by decide +kernel
theorem d_F_addLoad_7 : decode b_F_addLoad 7 = .ok (.getfield 22, 3) := by decide +kernel
theorem d_F_addLoad_10 : decode b_F_addLoad 10 = .ok (.iload 4, 2) := by decide +kernel
theorem d_F_addLoad_12 : decode b_F_addLoad 12 = .ok (.iload_n 1, 1) := by decide +kernel
theorem d_F_addLoad_13 : decode b_F_addLoad 13 = .ok (.iastore, 1) := by decide +kernel
theorem d_F_addLoad_14 : decode b_F_addLoad 14 = .ok (.aload_n 0, 1) := by decide +kernel
theorem d_F_addLoad_15 : decode b_F_addLoad 15 = .ok (.getfield 26, 3) := by decide +kernel
theorem d_F_addLoad_18 : decode b_F_addLoad 18 = .ok (.iload 4, 2) := by decide +kernel
theorem d_F_addLoad_20 : decode b_F_addLoad 20 = .ok (.iload_n 2, 1) := by decide +kernel
theorem d_F_addLoad_21 : decode b_F_addLoad 21 = .ok (.iastore, 1) := by decide +kernel
theorem d_F_addLoad_22 : decode b_F_addLoad 22 = .ok (.aload_n 0, 1) := by decide +kernel
theorem d_F_addLoad_23 : decode b_F_addLoad 23 = .ok (.getfield 29, 3) := by decide +kernel
theorem d_F_addLoad_26 : decode b_F_addLoad 26 = .ok (.iload 4, 2) := by decide +kernel
theorem d_F_addLoad_28 : decode b_F_addLoad 28 = .ok (.iload_n 3, 1) := by decide +kernel
theorem d_F_addLoad_29 : decode b_F_addLoad 29 = .ok (.iastore, 1) := by decide +kernel
theorem d_F_addLoad_30 : decode b_F_addLoad 30 = .ok (.aload_n 0, 1) := by decide +kernel
theorem d_F_addLoad_31 : decode b_F_addLoad 31 = .ok (.getfield 32, 3) := by decide +kernel
theorem d_F_addLoad_34 : decode b_F_addLoad 34 = .ok (.iload 4, 2) := by decide +kernel
theorem d_F_addLoad_36 : decode b_F_addLoad 36 = .ok (.iconst 1, 1) := by decide +kernel
theorem d_F_addLoad_37 : decode b_F_addLoad 37 = .ok (.bastore, 1) := by decide +kernel
theorem d_F_addLoad_38 : decode b_F_addLoad 38 = .ok (.aload_n 0, 1) := by decide +kernel
theorem d_F_addLoad_39 : decode b_F_addLoad 39 = .ok (.getfield 18, 3) := by decide +kernel
theorem d_F_addLoad_42 : decode b_F_addLoad 42 = .ok (.iload_n 1, 1) := by decide +kernel
theorem d_F_addLoad_43 : decode b_F_addLoad 43 = .ok (.aaload, 1) := by decide +kernel
theorem d_F_addLoad_44 : decode b_F_addLoad 44 = .ok (.getfield 68, 3) := by decide +kernel
theorem d_F_addLoad_47 : decode b_F_addLoad 47 = .ok (.iload_n 2, 1) := by decide +kernel
theorem d_F_addLoad_48 : decode b_F_addLoad 48 = .ok (.dup2, 1) := by decide +kernel
theorem d_F_addLoad_49 : decode b_F_addLoad 49 = .ok (.laload, 1) := by decide +kernel
theorem d_F_addLoad_50 : decode b_F_addLoad 50 = .ok (.iload_n 3, 1) := by decide +kernel
theorem d_F_addLoad_51 : decode b_F_addLoad 51 = .ok (.i2l, 1) := by decide +kernel
theorem d_F_addLoad_52 : decode b_F_addLoad 52 = .ok (.ladd, 1) := by decide +kernel
theorem d_F_addLoad_53 : decode b_F_addLoad 53 = .ok (.lastore, 1) := by decide +kernel
theorem d_F_addLoad_54 : decode b_F_addLoad 54 = .ok (.aload_n 0, 1) := by decide +kernel
theorem d_F_addLoad_55 : decode b_F_addLoad 55 = .ok (.iload 4, 2) := by decide +kernel
theorem d_F_addLoad_57 : decode b_F_addLoad 57 = .ok (.iconst 1, 1) := by decide +kernel
theorem d_F_addLoad_58 : decode b_F_addLoad 58 = .ok (.iadd, 1) := by decide +kernel
theorem d_F_addLoad_59 : decode b_F_addLoad 59 = .ok (.putfield 65, 3) := by decide +kernel
theorem d_F_addLoad_62 : decode b_F_addLoad 62 = .ok (.iload 4, 2) := by decide +kernel
theorem d_F_addLoad_64 : decode b_F_addLoad 64 = .ok (.ireturn, 1) := by decide +kernel
abbrev b_F_removeLoad : ByteArray := prog_4_method_6_code
abbrev y_F_removeLoad : MethodName := ⟨"OldBeams$Frame", "removeLoad", "(I)V"⟩
theorem d_F_removeLoad_0 : decode b_F_removeLoad 0 = .ok (.aload_n 0, 1) := by decide +kernel
theorem d_F_removeLoad_1 : decode b_F_removeLoad 1 = .ok (.getfield 32, 3) := by decide +kernel
theorem d_F_removeLoad_4 : decode b_F_removeLoad 4 = .ok (.iload_n 1, 1) := by decide +kernel
theorem d_F_removeLoad_5 : decode b_F_removeLoad 5 = .ok (.iconst 0, 1) := by decide +kernel
theorem d_F_removeLoad_6 : decode b_F_removeLoad 6 = .ok (.bastore, 1) := by decide +kernel
theorem d_F_removeLoad_7 : decode b_F_removeLoad 7 = .ok (.aload_n 0, 1) := by decide +kernel
theorem d_F_removeLoad_8 : decode b_F_removeLoad 8 = .ok (.getfield 18, 3) := by decide +kernel
theorem d_F_removeLoad_11 : decode b_F_removeLoad 11 = .ok (.aload_n 0, 1) := by decide +kernel
theorem d_F_removeLoad_12 : decode b_F_removeLoad 12 = .ok (.getfield 22, 3) := by decide +kernel
theorem d_F_removeLoad_15 : decode b_F_removeLoad 15 = .ok (.iload_n 1, 1) := by decide +kernel
theorem d_F_removeLoad_16 : decode b_F_removeLoad 16 = .ok (.iaload, 1) := by decide +kernel
theorem d_F_removeLoad_17 : decode b_F_removeLoad 17 = .ok (.aaload, 1) := by decide +kernel
theorem d_F_removeLoad_18 : decode b_F_removeLoad 18 = .ok (.getfield 68, 3) := by decide +kernel
theorem d_F_removeLoad_21 : decode b_F_removeLoad 21 = .ok (.aload_n 0, 1) := by decide +kernel
theorem d_F_removeLoad_22 : decode b_F_removeLoad 22 = .ok (.getfield 26, 3) := by decide +kernel
theorem d_F_removeLoad_25 : decode b_F_removeLoad 25 = .ok (.iload_n 1, 1) := by decide +kernel
theorem d_F_removeLoad_26 : decode b_F_removeLoad 26 = .ok (.iaload, 1) := by decide +kernel
theorem d_F_removeLoad_27 : decode b_F_removeLoad 27 = .ok (.dup2, 1) := by decide +kernel
theorem d_F_removeLoad_28 : decode b_F_removeLoad 28 = .ok (.laload, 1) := by decide +kernel
theorem d_F_removeLoad_29 : decode b_F_removeLoad 29 = .ok (.aload_n 0, 1) := by decide +kernel
theorem d_F_removeLoad_30 : decode b_F_removeLoad 30 = .ok (.getfield 29, 3) := by decide +kernel
theorem d_F_removeLoad_33 : decode b_F_removeLoad 33 = .ok (.iload_n 1, 1) := by decide +kernel
theorem d_F_removeLoad_34 : decode b_F_removeLoad 34 = .ok (.iaload, 1) := by decide +kernel
theorem d_F_removeLoad_35 : decode b_F_removeLoad 35 = .ok (.i2l, 1) := by decide +kernel
theorem d_F_removeLoad_36 : decode b_F_removeLoad 36 = .ok (.lsub, 1) := by decide +kernel
theorem d_F_removeLoad_37 : decode b_F_removeLoad 37 = .ok (.lastore, 1) := by decide +kernel
theorem d_F_removeLoad_38 : decode b_F_removeLoad 38 = .ok (.return_, 1) := by decide +kernel
abbrev b_In_bitCount : ByteArray := prog_8_method_49_code
abbrev y_In_bitCount : MethodName := ⟨"java/lang/Integer", "bitCount", "(I)I"⟩
theorem d_In_bitCount_0 : decode b_In_bitCount 0 = .ok (.iload_n 0, 1) := by decide +kernel
theorem d_In_bitCount_1 : decode b_In_bitCount 1 = .ok (.iload_n 0, 1) := by decide +kernel
theorem d_In_bitCount_2 : decode b_In_bitCount 2 = .ok (.iconst 1, 1) := by decide +kernel
theorem d_In_bitCount_3 : decode b_In_bitCount 3 = .ok (.iushr, 1) := by decide +kernel
theorem d_In_bitCount_4 : decode b_In_bitCount 4 = .ok (.ldc_w 265, 3) := by decide +kernel
theorem d_In_bitCount_7 : decode b_In_bitCount 7 = .ok (.iand, 1) := by decide +kernel
theorem d_In_bitCount_8 : decode b_In_bitCount 8 = .ok (.isub, 1) := by decide +kernel
theorem d_In_bitCount_9 : decode b_In_bitCount 9 = .ok (.istore_n 0, 1) := by decide +kernel
theorem d_In_bitCount_10 : decode b_In_bitCount 10 = .ok (.iload_n 0, 1) := by decide +kernel
theorem d_In_bitCount_11 : decode b_In_bitCount 11 = .ok (.ldc_w 266, 3) := by decide +kernel
theorem d_In_bitCount_14 : decode b_In_bitCount 14 = .ok (.iand, 1) := by decide +kernel
theorem d_In_bitCount_15 : decode b_In_bitCount 15 = .ok (.iload_n 0, 1) := by decide +kernel
theorem d_In_bitCount_16 : decode b_In_bitCount 16 = .ok (.iconst 2, 1) := by decide +kernel
theorem d_In_bitCount_17 : decode b_In_bitCount 17 = .ok (.iushr, 1) := by decide +kernel
theorem d_In_bitCount_18 : decode b_In_bitCount 18 = .ok (.ldc_w 266, 3) := by decide +kernel
theorem d_In_bitCount_21 : decode b_In_bitCount 21 = .ok (.iand, 1) := by decide +kernel
theorem d_In_bitCount_22 : decode b_In_bitCount 22 = .ok (.iadd, 1) := by decide +kernel
theorem d_In_bitCount_23 : decode b_In_bitCount 23 = .ok (.istore_n 0, 1) := by decide +kernel
theorem d_In_bitCount_24 : decode b_In_bitCount 24 = .ok (.iload_n 0, 1) := by decide +kernel
theorem d_In_bitCount_25 : decode b_In_bitCount 25 = .ok (.iload_n 0, 1) := by decide +kernel
theorem d_In_bitCount_26 : decode b_In_bitCount 26 = .ok (.iconst 4, 1) := by decide +kernel
theorem d_In_bitCount_27 : decode b_In_bitCount 27 = .ok (.iushr, 1) := by decide +kernel
theorem d_In_bitCount_28 : decode b_In_bitCount 28 = .ok (.iadd, 1) := by decide +kernel
theorem d_In_bitCount_29 : decode b_In_bitCount 29 = .ok (.ldc_w 267, 3) := by decide +kernel
theorem d_In_bitCount_32 : decode b_In_bitCount 32 = .ok (.iand, 1) := by decide +kernel
theorem d_In_bitCount_33 : decode b_In_bitCount 33 = .ok (.istore_n 0, 1) := by decide +kernel
theorem d_In_bitCount_34 : decode b_In_bitCount 34 = .ok (.iload_n 0, 1) := by decide +kernel
theorem d_In_bitCount_35 : decode b_In_bitCount 35 = .ok (.iload_n 0, 1) := by decide +kernel
theorem d_In_bitCount_36 : decode b_In_bitCount 36 = .ok (.bipush 8, 2) := by decide +kernel
theorem d_In_bitCount_38 : decode b_In_bitCount 38 = .ok (.iushr, 1) := by decide +kernel
theorem d_In_bitCount_39 : decode b_In_bitCount 39 = .ok (.iadd, 1) := by decide +kernel
theorem d_In_bitCount_40 : decode b_In_bitCount 40 = .ok (.istore_n 0, 1) := by decide +kernel
theorem d_In_bitCount_41 : decode b_In_bitCount 41 = .ok (.iload_n 0, 1) := by decide +kernel
theorem d_In_bitCount_42 : decode b_In_bitCount 42 = .ok (.iload_n 0, 1) := by decide +kernel
theorem d_In_bitCount_43 : decode b_In_bitCount 43 = .ok (.bipush 16, 2) := by decide +kernel
theorem d_In_bitCount_45 : decode b_In_bitCount 45 = .ok (.iushr, 1) := by decide +kernel
theorem d_In_bitCount_46 : decode b_In_bitCount 46 = .ok (.iadd, 1) := by decide +kernel
theorem d_In_bitCount_47 : decode b_In_bitCount 47 = .ok (.istore_n 0, 1) := by decide +kernel
theorem d_In_bitCount_48 : decode b_In_bitCount 48 = .ok (.iload_n 0, 1) := by decide +kernel
theorem d_In_bitCount_49 : decode b_In_bitCount 49 = .ok (.bipush 63, 2) := by decide +kernel
theorem d_In_bitCount_51 : decode b_In_bitCount 51 = .ok (.iand, 1) := by decide +kernel
theorem d_In_bitCount_52 : decode b_In_bitCount 52 = .ok (.ireturn, 1) := by decide +kernel
abbrev b_F_reckonNow : ByteArray := prog_4_method_13_code
abbrev y_F_reckonNow : MethodName := ⟨"OldBeams$Frame", "reckonNow", "()V"⟩
theorem d_F_reckonNow_0 : decode b_F_reckonNow 0 = .ok (.aload_n 0, 1) := by decide +kernel
theorem d_F_reckonNow_1 : decode b_F_reckonNow 1 = .ok (.aload_n 0, 1) := by decide +kernel
theorem d_F_reckonNow_2 : decode b_F_reckonNow 2 = .ok (.aload_n 0, 1) := by decide +kernel
theorem d_F_reckonNow_3 : decode b_F_reckonNow 3 = .ok (.getfield 86, 3) := by decide +kernel
theorem d_F_reckonNow_6 : decode b_F_reckonNow 6 = .ok (.invokevirtual 89, 3) := by decide +kernel
theorem d_F_reckonNow_9 : decode b_F_reckonNow 9 = .ok (.aload_n 0, 1) := by decide +kernel
theorem d_F_reckonNow_10 : decode b_F_reckonNow 10 = .ok (.getfield 93, 3) := by decide +kernel
theorem d_F_reckonNow_13 : decode b_F_reckonNow 13 = .ok (.invokevirtual 96, 3) := by decide +kernel
theorem d_F_reckonNow_16 : decode b_F_reckonNow 16 = .ok (.return_, 1) := by decide +kernel
abbrev b_F_reckonAll : ByteArray := prog_4_method_14_code
abbrev y_F_reckonAll : MethodName := ⟨"OldBeams$Frame", "reckonAll", "(II)V"⟩
theorem d_F_reckonAll_0 : decode b_F_reckonAll 0 = .ok (.aload_n 0, 1) := by decide +kernel
theorem d_F_reckonAll_1 : decode b_F_reckonAll 1 = .ok (.iload_n 2, 1) := by decide +kernel
theorem d_F_reckonAll_2 : decode b_F_reckonAll 2 = .ok (.invokevirtual 100, 3) := by decide +kernel
theorem d_F_reckonAll_5 : decode b_F_reckonAll 5 = .ok (.aload_n 0, 1) := by decide +kernel
theorem d_F_reckonAll_6 : decode b_F_reckonAll 6 = .ok (.getfield 46, 3) := by decide +kernel
theorem d_F_reckonAll_9 : decode b_F_reckonAll 9 = .ok (.iconst 1, 1) := by decide +kernel
theorem d_F_reckonAll_10 : decode b_F_reckonAll 10 = .ok (.isub, 1) := by decide +kernel
theorem d_F_reckonAll_11 : decode b_F_reckonAll 11 = .ok (.istore_n 3, 1) := by decide +kernel
theorem d_F_reckonAll_12 : decode b_F_reckonAll 12 = .ok (.iload_n 3, 1) := by decide +kernel
theorem d_F_reckonAll_13 : decode b_F_reckonAll 13 = .ok (.ifCond .lt 27, 3) := by decide +kernel
theorem d_F_reckonAll_16 : decode b_F_reckonAll 16 = .ok (.iload_n 1, 1) := by decide +kernel
theorem d_F_reckonAll_17 : decode b_F_reckonAll 17 = .ok (.iload_n 3, 1) := by decide +kernel
theorem d_F_reckonAll_18 : decode b_F_reckonAll 18 = .ok (.invokestatic 83, 3) := by decide +kernel
theorem d_F_reckonAll_21 : decode b_F_reckonAll 21 = .ok (.ifCond .ne 13, 3) := by decide +kernel
theorem d_F_reckonAll_24 : decode b_F_reckonAll 24 = .ok (.aload_n 0, 1) := by decide +kernel
theorem d_F_reckonAll_25 : decode b_F_reckonAll 25 = .ok (.aload_n 0, 1) := by decide +kernel
theorem d_F_reckonAll_26 : decode b_F_reckonAll 26 = .ok (.getfield 18, 3) := by decide +kernel
theorem d_F_reckonAll_29 : decode b_F_reckonAll 29 = .ok (.iload_n 3, 1) := by decide +kernel
theorem d_F_reckonAll_30 : decode b_F_reckonAll 30 = .ok (.aaload, 1) := by decide +kernel
theorem d_F_reckonAll_31 : decode b_F_reckonAll 31 = .ok (.invokevirtual 104, 3) := by decide +kernel
theorem d_F_reckonAll_34 : decode b_F_reckonAll 34 = .ok (.iinc 3 (-1), 3) := by decide +kernel
theorem d_F_reckonAll_37 : decode b_F_reckonAll 37 = .ok (.goto (-25), 3) := by decide +kernel
theorem d_F_reckonAll_40 : decode b_F_reckonAll 40 = .ok (.return_, 1) := by decide +kernel
abbrev b_F_spreadForces : ByteArray := prog_4_method_15_code
abbrev y_F_spreadForces : MethodName := ⟨"OldBeams$Frame", "spreadForces", "(I)V"⟩
theorem d_F_spreadForces_0 : decode b_F_spreadForces 0 = .ok (.iconst 0, 1) := by decide +kernel
theorem d_F_spreadForces_1 : decode b_F_spreadForces 1 = .ok (.istore_n 2, 1) := by decide +kernel
theorem d_F_spreadForces_2 : decode b_F_spreadForces 2 = .ok (.iload_n 2, 1) := by decide +kernel
theorem d_F_spreadForces_3 : decode b_F_spreadForces 3 = .ok (.aload_n 0, 1) := by decide +kernel
theorem d_F_spreadForces_4 : decode b_F_spreadForces 4 = .ok (.getfield 46, 3) := by decide +kernel
theorem d_F_spreadForces_7 : decode b_F_spreadForces 7 = .ok (.if_icmp .ge 18, 3) := by decide +kernel
theorem d_F_spreadForces_10 : decode b_F_spreadForces 10 = .ok (.aload_n 0, 1) := by decide +kernel
theorem d_F_spreadForces_11 : decode b_F_spreadForces 11 = .ok (.getfield 18, 3) := by decide +kernel
theorem d_F_spreadForces_14 : decode b_F_spreadForces 14 = .ok (.iload_n 2, 1) := by decide +kernel
theorem d_F_spreadForces_15 : decode b_F_spreadForces 15 = .ok (.aaload, 1) := by decide +kernel
theorem d_F_spreadForces_16 : decode b_F_spreadForces 16 = .ok (.invokevirtual 108, 3) := by decide +kernel
theorem d_F_spreadForces_19 : decode b_F_spreadForces 19 = .ok (.iinc 2 1, 3) := by decide +kernel
theorem d_F_spreadForces_22 : decode b_F_spreadForces 22 = .ok (.goto (-20), 3) := by decide +kernel
theorem d_F_spreadForces_25 : decode b_F_spreadForces 25 = .ok (.iconst 0, 1) := by decide +kernel
theorem d_F_spreadForces_26 : decode b_F_spreadForces 26 = .ok (.istore_n 2, 1) := by decide +kernel
theorem d_F_spreadForces_27 : decode b_F_spreadForces 27 = .ok (.iload_n 2, 1) := by decide +kernel
theorem d_F_spreadForces_28 : decode b_F_spreadForces 28 = .ok (.aload_n 0, 1) := by decide +kernel
theorem d_F_spreadForces_29 : decode b_F_spreadForces 29 = .ok (.getfield 72, 3) := by decide +kernel
theorem d_F_spreadForces_32 : decode b_F_spreadForces 32 = .ok (.if_icmp .ge 49, 3) := by decide +kernel
theorem d_F_spreadForces_35 : decode b_F_spreadForces 35 = .ok (.iload_n 1, 1) := by decide +kernel
theorem d_F_spreadForces_36 : decode b_F_spreadForces 36 = .ok (.iload_n 2, 1) := by decide +kernel
theorem d_F_spreadForces_37 : decode b_F_spreadForces 37 = .ok (.invokestatic 111, 3) := by decide +kernel
theorem d_F_spreadForces_40 : decode b_F_spreadForces 40 = .ok (.iand, 1) := by decide +kernel
theorem d_F_spreadForces_41 : decode b_F_spreadForces 41 = .ok (.ifCond .eq 34, 3) := by decide +kernel
theorem d_F_spreadForces_44 : decode b_F_spreadForces 44 = .ok (.aload_n 0, 1) := by decide +kernel
theorem d_F_spreadForces_45 : decode b_F_spreadForces 45 = .ok (.getfield 18, 3) := by decide +kernel
theorem d_F_spreadForces_48 : decode b_F_spreadForces 48 = .ok (.aload_n 0, 1) := by decide +kernel
theorem d_F_spreadForces_49 : decode b_F_spreadForces 49 = .ok (.getfield 36, 3) := by decide +kernel
theorem d_F_spreadForces_52 : decode b_F_spreadForces 52 = .ok (.iload_n 2, 1) := by decide +kernel
theorem d_F_spreadForces_53 : decode b_F_spreadForces 53 = .ok (.iaload, 1) := by decide +kernel
theorem d_F_spreadForces_54 : decode b_F_spreadForces 54 = .ok (.aaload, 1) := by decide +kernel
theorem d_F_spreadForces_55 : decode b_F_spreadForces 55 = .ok (.getfield 114, 3) := by decide +kernel
theorem d_F_spreadForces_58 : decode b_F_spreadForces 58 = .ok (.aload_n 0, 1) := by decide +kernel
theorem d_F_spreadForces_59 : decode b_F_spreadForces 59 = .ok (.getfield 39, 3) := by decide +kernel
theorem d_F_spreadForces_62 : decode b_F_spreadForces 62 = .ok (.iload_n 2, 1) := by decide +kernel
theorem d_F_spreadForces_63 : decode b_F_spreadForces 63 = .ok (.iaload, 1) := by decide +kernel
theorem d_F_spreadForces_64 : decode b_F_spreadForces 64 = .ok (.dup2, 1) := by decide +kernel
theorem d_F_spreadForces_65 : decode b_F_spreadForces 65 = .ok (.laload, 1) := by decide +kernel
theorem d_F_spreadForces_66 : decode b_F_spreadForces 66 = .ok (.aload_n 0, 1) := by decide +kernel
theorem d_F_spreadForces_67 : decode b_F_spreadForces 67 = .ok (.getfield 42, 3) := by decide +kernel
theorem d_F_spreadForces_70 : decode b_F_spreadForces 70 = .ok (.iload_n 2, 1) := by decide +kernel
theorem d_F_spreadForces_71 : decode b_F_spreadForces 71 = .ok (.iaload, 1) := by decide +kernel
theorem d_F_spreadForces_72 : decode b_F_spreadForces 72 = .ok (.i2l, 1) := by decide +kernel
theorem d_F_spreadForces_73 : decode b_F_spreadForces 73 = .ok (.lsub, 1) := by decide +kernel
theorem d_F_spreadForces_74 : decode b_F_spreadForces 74 = .ok (.lastore, 1) := by decide +kernel
theorem d_F_spreadForces_75 : decode b_F_spreadForces 75 = .ok (.iinc 2 1, 3) := by decide +kernel
theorem d_F_spreadForces_78 : decode b_F_spreadForces 78 = .ok (.goto (-51), 3) := by decide +kernel
theorem d_F_spreadForces_81 : decode b_F_spreadForces 81 = .ok (.return_, 1) := by decide +kernel
abbrev b_B_takeLoads : ByteArray := prog_2_method_5_code
abbrev y_B_takeLoads : MethodName := ⟨"OldBeams$Beam", "takeLoads", "()V"⟩
theorem d_B_takeLoads_0 : decode b_B_takeLoads 0 = .ok (.aload_n 0, 1) := by decide +kernel
theorem d_B_takeLoads_1 : decode b_B_takeLoads 1 = .ok (.getfield 21, 3) := by decide +kernel
theorem d_B_takeLoads_4 : decode b_B_takeLoads 4 = .ok (.iconst 0, 1) := by decide +kernel
theorem d_B_takeLoads_5 : decode b_B_takeLoads 5 = .ok (.aload_n 0, 1) := by decide +kernel
theorem d_B_takeLoads_6 : decode b_B_takeLoads 6 = .ok (.getfield 25, 3) := by decide +kernel
theorem d_B_takeLoads_9 : decode b_B_takeLoads 9 = .ok (.iconst 0, 1) := by decide +kernel
theorem d_B_takeLoads_10 : decode b_B_takeLoads 10 = .ok (.aload_n 0, 1) := by decide +kernel
theorem d_B_takeLoads_11 : decode b_B_takeLoads 11 = .ok (.getfield 35, 3) := by decide +kernel
theorem d_B_takeLoads_14 : decode b_B_takeLoads 14 = .ok (.iconst 1, 1) := by decide +kernel
theorem d_B_takeLoads_15 : decode b_B_takeLoads 15 = .ok (.iadd, 1) := by decide +kernel
theorem d_B_takeLoads_16 : decode b_B_takeLoads 16 = .ok (.invokestatic 49, 3) := by decide +kernel
theorem d_B_takeLoads_19 : decode b_B_takeLoads 19 = .ok (.return_, 1) := by decide +kernel
abbrev b_F_propBit : ByteArray := prog_4_method_9_code
abbrev y_F_propBit : MethodName := ⟨"OldBeams$Frame", "propBit", "(I)I"⟩
theorem d_F_propBit_0 : decode b_F_propBit 0 = .ok (.iconst 1, 1) := by decide +kernel
theorem d_F_propBit_1 : decode b_F_propBit 1 = .ok (.bipush 7, 2) := by decide +kernel
theorem d_F_propBit_3 : decode b_F_propBit 3 = .ok (.iload_n 0, 1) := by decide +kernel
theorem d_F_propBit_4 : decode b_F_propBit 4 = .ok (.isub, 1) := by decide +kernel
theorem d_F_propBit_5 : decode b_F_propBit 5 = .ok (.ishl, 1) := by decide +kernel
theorem d_F_propBit_6 : decode b_F_propBit 6 = .ok (.ireturn, 1) := by decide +kernel
abbrev b_F_reckonBeam : ByteArray := prog_4_method_16_code
abbrev y_F_reckonBeam : MethodName := ⟨"OldBeams$Frame", "reckonBeam", "(LOldBeams$Beam;)V"⟩
theorem d_F_reckonBeam_0 : decode b_F_reckonBeam 0 = .ok (.aload_n 1, 1) := by decide +kernel
theorem d_F_reckonBeam_1 : decode b_F_reckonBeam 1 = .ok (.invokevirtual 117, 3) := by decide +kernel
theorem d_F_reckonBeam_4 : decode b_F_reckonBeam 4 = .ok (.aload_n 1, 1) := by decide +kernel
theorem d_F_reckonBeam_5 : decode b_F_reckonBeam 5 = .ok (.invokevirtual 120, 3) := by decide +kernel
theorem d_F_reckonBeam_8 : decode b_F_reckonBeam 8 = .ok (.iconst 0, 1) := by decide +kernel
theorem d_F_reckonBeam_9 : decode b_F_reckonBeam 9 = .ok (.istore_n 2, 1) := by decide +kernel
theorem d_F_reckonBeam_10 : decode b_F_reckonBeam 10 = .ok (.iload_n 2, 1) := by decide +kernel
theorem d_F_reckonBeam_11 : decode b_F_reckonBeam 11 = .ok (.iconst 2, 1) := by decide +kernel
theorem d_F_reckonBeam_12 : decode b_F_reckonBeam 12 = .ok (.if_icmp .ge 49, 3) := by decide +kernel
theorem d_F_reckonBeam_15 : decode b_F_reckonBeam 15 = .ok (.aload_n 1, 1) := by decide +kernel
theorem d_F_reckonBeam_16 : decode b_F_reckonBeam 16 = .ok (.getfield 75, 3) := by decide +kernel
theorem d_F_reckonBeam_19 : decode b_F_reckonBeam 19 = .ok (.iload_n 2, 1) := by decide +kernel
theorem d_F_reckonBeam_20 : decode b_F_reckonBeam 20 = .ok (.iaload, 1) := by decide +kernel
theorem d_F_reckonBeam_21 : decode b_F_reckonBeam 21 = .ok (.istore_n 3, 1) := by decide +kernel
theorem d_F_reckonBeam_22 : decode b_F_reckonBeam 22 = .ok (.aload_n 0, 1) := by decide +kernel
theorem d_F_reckonBeam_23 : decode b_F_reckonBeam 23 = .ok (.iload_n 3, 1) := by decide +kernel
theorem d_F_reckonBeam_24 : decode b_F_reckonBeam 24 = .ok (.invokevirtual 54, 3) := by decide +kernel
theorem d_F_reckonBeam_27 : decode b_F_reckonBeam 27 = .ok (.ifCond .eq 28, 3) := by decide +kernel
theorem d_F_reckonBeam_30 : decode b_F_reckonBeam 30 = .ok (.aload_n 0, 1) := by decide +kernel
theorem d_F_reckonBeam_31 : decode b_F_reckonBeam 31 = .ok (.getfield 18, 3) := by decide +kernel
theorem d_F_reckonBeam_34 : decode b_F_reckonBeam 34 = .ok (.iload_n 3, 1) := by decide +kernel
theorem d_F_reckonBeam_35 : decode b_F_reckonBeam 35 = .ok (.aaload, 1) := by decide +kernel
theorem d_F_reckonBeam_36 : decode b_F_reckonBeam 36 = .ok (.getfield 114, 3) := by decide +kernel
theorem d_F_reckonBeam_39 : decode b_F_reckonBeam 39 = .ok (.aload_n 1, 1) := by decide +kernel
theorem d_F_reckonBeam_40 : decode b_F_reckonBeam 40 = .ok (.getfield 123, 3) := by decide +kernel
theorem d_F_reckonBeam_43 : decode b_F_reckonBeam 43 = .ok (.iload_n 2, 1) := by decide +kernel
theorem d_F_reckonBeam_44 : decode b_F_reckonBeam 44 = .ok (.iaload, 1) := by decide +kernel
theorem d_F_reckonBeam_45 : decode b_F_reckonBeam 45 = .ok (.dup2, 1) := by decide +kernel
theorem d_F_reckonBeam_46 : decode b_F_reckonBeam 46 = .ok (.laload, 1) := by decide +kernel
theorem d_F_reckonBeam_47 : decode b_F_reckonBeam 47 = .ok (.aload_n 1, 1) := by decide +kernel
theorem d_F_reckonBeam_48 : decode b_F_reckonBeam 48 = .ok (.getfield 126, 3) := by decide +kernel
theorem d_F_reckonBeam_51 : decode b_F_reckonBeam 51 = .ok (.iload_n 2, 1) := by decide +kernel
theorem d_F_reckonBeam_52 : decode b_F_reckonBeam 52 = .ok (.laload, 1) := by decide +kernel
theorem d_F_reckonBeam_53 : decode b_F_reckonBeam 53 = .ok (.ladd, 1) := by decide +kernel
theorem d_F_reckonBeam_54 : decode b_F_reckonBeam 54 = .ok (.lastore, 1) := by decide +kernel
theorem d_F_reckonBeam_55 : decode b_F_reckonBeam 55 = .ok (.iinc 2 1, 3) := by decide +kernel
theorem d_F_reckonBeam_58 : decode b_F_reckonBeam 58 = .ok (.goto (-48), 3) := by decide +kernel
theorem d_F_reckonBeam_61 : decode b_F_reckonBeam 61 = .ok (.return_, 1) := by decide +kernel
abbrev b_B_reckonPushes : ByteArray := prog_2_method_6_code
abbrev y_B_reckonPushes : MethodName := ⟨"OldBeams$Beam", "reckonPushes", "()V"⟩
theorem d_B_reckonPushes_0 : decode b_B_reckonPushes 0 = .ok (.aload_n 0, 1) := by decide +kernel
theorem d_B_reckonPushes_1 : decode b_B_reckonPushes 1 = .ok (.getfield 9, 3) := by decide +kernel
theorem d_B_reckonPushes_4 : decode b_B_reckonPushes 4 = .ok (.iconst 1, 1) := by decide +kernel
theorem d_B_reckonPushes_5 : decode b_B_reckonPushes 5 = .ok (.iaload, 1) := by decide +kernel
theorem d_B_reckonPushes_6 : decode b_B_reckonPushes 6 = .ok (.aload_n 0, 1) := by decide +kernel
theorem d_B_reckonPushes_7 : decode b_B_reckonPushes 7 = .ok (.getfield 9, 3) := by decide +kernel
theorem d_B_reckonPushes_10 : decode b_B_reckonPushes 10 = .ok (.iconst 0, 1) := by decide +kernel
theorem d_B_reckonPushes_11 : decode b_B_reckonPushes 11 = .ok (.iaload, 1) := by decide +kernel
theorem d_B_reckonPushes_12 : decode b_B_reckonPushes 12 = .ok (.isub, 1) := by decide +kernel
theorem d_B_reckonPushes_13 : decode b_B_reckonPushes 13 = .ok (.istore_n 1, 1) := by decide +kernel
theorem d_B_reckonPushes_14 : decode b_B_reckonPushes 14 = .ok (.iload_n 1, 1) := by decide +kernel
theorem d_B_reckonPushes_15 : decode b_B_reckonPushes 15 = .ok (.ifCond .gt 4, 3) := by decide +kernel
theorem d_B_reckonPushes_18 : decode b_B_reckonPushes 18 = .ok (.return_, 1) := by decide +kernel
theorem d_B_reckonPushes_19 : decode b_B_reckonPushes 19 = .ok (.lconst 0, 1) := by decide +kernel
theorem d_B_reckonPushes_20 : decode b_B_reckonPushes 20 = .ok (.lstore_n 2, 1) := by decide +kernel
theorem d_B_reckonPushes_21 : decode b_B_reckonPushes 21 = .ok (.lconst 0, 1) := by decide +kernel
theorem d_B_reckonPushes_22 : decode b_B_reckonPushes 22 = .ok (.lstore 4, 2) := by decide +kernel
theorem d_B_reckonPushes_24 : decode b_B_reckonPushes 24 = .ok (.iconst 0, 1) := by decide +kernel
theorem d_B_reckonPushes_25 : decode b_B_reckonPushes 25 = .ok (.istore 6, 2) := by decide +kernel
theorem d_B_reckonPushes_27 : decode b_B_reckonPushes 27 = .ok (.iload 6, 2) := by decide +kernel
theorem d_B_reckonPushes_29 : decode b_B_reckonPushes 29 = .ok (.aload_n 0, 1) := by decide +kernel
theorem d_B_reckonPushes_30 : decode b_B_reckonPushes 30 = .ok (.getfield 35, 3) := by decide +kernel
theorem d_B_reckonPushes_33 : decode b_B_reckonPushes 33 = .ok (.if_icmp .gt 42, 3) := by decide +kernel
theorem d_B_reckonPushes_36 : decode b_B_reckonPushes 36 = .ok (.lload_n 2, 1) := by decide +kernel
theorem d_B_reckonPushes_37 : decode b_B_reckonPushes 37 = .ok (.aload_n 0, 1) := by decide +kernel
theorem d_B_reckonPushes_38 : decode b_B_reckonPushes 38 = .ok (.getfield 25, 3) := by decide +kernel
theorem d_B_reckonPushes_41 : decode b_B_reckonPushes 41 = .ok (.iload 6, 2) := by decide +kernel
theorem d_B_reckonPushes_43 : decode b_B_reckonPushes 43 = .ok (.laload, 1) := by decide +kernel
theorem d_B_reckonPushes_44 : decode b_B_reckonPushes 44 = .ok (.ladd, 1) := by decide +kernel
theorem d_B_reckonPushes_45 : decode b_B_reckonPushes 45 = .ok (.lstore_n 2, 1) := by decide +kernel
theorem d_B_reckonPushes_46 : decode b_B_reckonPushes 46 = .ok (.lload 4, 2) := by decide +kernel
theorem d_B_reckonPushes_48 : decode b_B_reckonPushes 48 = .ok (.aload_n 0, 1) := by decide +kernel
theorem d_B_reckonPushes_49 : decode b_B_reckonPushes 49 = .ok (.getfield 25, 3) := by decide +kernel
theorem d_B_reckonPushes_52 : decode b_B_reckonPushes 52 = .ok (.iload 6, 2) := by decide +kernel
theorem d_B_reckonPushes_54 : decode b_B_reckonPushes 54 = .ok (.laload, 1) := by decide +kernel
theorem d_B_reckonPushes_55 : decode b_B_reckonPushes 55 = .ok (.iload 6, 2) := by decide +kernel
theorem d_B_reckonPushes_57 : decode b_B_reckonPushes 57 = .ok (.aload_n 0, 1) := by decide +kernel
theorem d_B_reckonPushes_58 : decode b_B_reckonPushes 58 = .ok (.getfield 9, 3) := by decide +kernel
theorem d_B_reckonPushes_61 : decode b_B_reckonPushes 61 = .ok (.iconst 0, 1) := by decide +kernel
theorem d_B_reckonPushes_62 : decode b_B_reckonPushes 62 = .ok (.iaload, 1) := by decide +kernel
theorem d_B_reckonPushes_63 : decode b_B_reckonPushes 63 = .ok (.isub, 1) := by decide +kernel
theorem d_B_reckonPushes_64 : decode b_B_reckonPushes 64 = .ok (.i2l, 1) := by decide +kernel
theorem d_B_reckonPushes_65 : decode b_B_reckonPushes 65 = .ok (.lmul, 1) := by decide +kernel
theorem d_B_reckonPushes_66 : decode b_B_reckonPushes 66 = .ok (.ladd, 1) := by decide +kernel
theorem d_B_reckonPushes_67 : decode b_B_reckonPushes 67 = .ok (.lstore 4, 2) := by decide +kernel
theorem d_B_reckonPushes_69 : decode b_B_reckonPushes 69 = .ok (.iinc 6 1, 3) := by decide +kernel
theorem d_B_reckonPushes_72 : decode b_B_reckonPushes 72 = .ok (.goto (-45), 3) := by decide +kernel
theorem d_B_reckonPushes_75 : decode b_B_reckonPushes 75 = .ok (.aload_n 0, 1) := by decide +kernel
theorem d_B_reckonPushes_76 : decode b_B_reckonPushes 76 = .ok (.getfield 28, 3) := by decide +kernel
theorem d_B_reckonPushes_79 : decode b_B_reckonPushes 79 = .ok (.iconst 1, 1) := by decide +kernel
theorem d_B_reckonPushes_80 : decode b_B_reckonPushes 80 = .ok (.lload 4, 2) := by decide +kernel
theorem d_B_reckonPushes_82 : decode b_B_reckonPushes 82 = .ok (.iload_n 1, 1) := by decide +kernel
theorem d_B_reckonPushes_83 : decode b_B_reckonPushes 83 = .ok (.i2l, 1) := by decide +kernel
theorem d_B_reckonPushes_84 : decode b_B_reckonPushes 84 = .ok (.invokestatic 55, 3) := by decide +kernel
theorem d_B_reckonPushes_87 : decode b_B_reckonPushes 87 = .ok (.lastore, 1) := by decide +kernel
theorem d_B_reckonPushes_88 : decode b_B_reckonPushes 88 = .ok (.aload_n 0, 1) := by decide +kernel
theorem d_B_reckonPushes_89 : decode b_B_reckonPushes 89 = .ok (.getfield 28, 3) := by decide +kernel
theorem d_B_reckonPushes_92 : decode b_B_reckonPushes 92 = .ok (.iconst 0, 1) := by decide +kernel
theorem d_B_reckonPushes_93 : decode b_B_reckonPushes 93 = .ok (.lload_n 2, 1) := by decide +kernel
theorem d_B_reckonPushes_94 : decode b_B_reckonPushes 94 = .ok (.aload_n 0, 1) := by decide +kernel
theorem d_B_reckonPushes_95 : decode b_B_reckonPushes 95 = .ok (.getfield 28, 3) := by decide +kernel
theorem d_B_reckonPushes_98 : decode b_B_reckonPushes 98 = .ok (.iconst 1, 1) := by decide +kernel
theorem d_B_reckonPushes_99 : decode b_B_reckonPushes 99 = .ok (.laload, 1) := by decide +kernel
theorem d_B_reckonPushes_100 : decode b_B_reckonPushes 100 = .ok (.lsub, 1) := by decide +kernel
theorem d_B_reckonPushes_101 : decode b_B_reckonPushes 101 = .ok (.lastore, 1) := by decide +kernel
theorem d_B_reckonPushes_102 : decode b_B_reckonPushes 102 = .ok (.return_, 1) := by decide +kernel
abbrev b_Ma_floorDiv : ByteArray := prog_9_method_49_code
abbrev y_Ma_floorDiv : MethodName := ⟨"java/lang/Math", "floorDiv", "(JJ)J"⟩
theorem d_Ma_floorDiv_0 : decode b_Ma_floorDiv 0 = .ok (.lload_n 0, 1) := by decide +kernel
theorem d_Ma_floorDiv_1 : decode b_Ma_floorDiv 1 = .ok (.lload_n 2, 1) := by decide +kernel
theorem d_Ma_floorDiv_2 : decode b_Ma_floorDiv 2 = .ok (.ldiv, 1) := by decide +kernel
theorem d_Ma_floorDiv_3 : decode b_Ma_floorDiv 3 = .ok (.lstore 4, 2) := by decide +kernel
theorem d_Ma_floorDiv_5 : decode b_Ma_floorDiv 5 = .ok (.lload_n 0, 1) := by decide +kernel
theorem d_Ma_floorDiv_6 : decode b_Ma_floorDiv 6 = .ok (.lload_n 2, 1) := by decide +kernel
theorem d_Ma_floorDiv_7 : decode b_Ma_floorDiv 7 = .ok (.lxor, 1) := by decide +kernel
theorem d_Ma_floorDiv_8 : decode b_Ma_floorDiv 8 = .ok (.lconst 0, 1) := by decide +kernel
theorem d_Ma_floorDiv_9 : decode b_Ma_floorDiv 9 = .ok (.lcmp, 1) := by decide +kernel
theorem d_Ma_floorDiv_10 : decode b_Ma_floorDiv 10 = .ok (.ifCond .ge 17, 3) := by decide +kernel
theorem d_Ma_floorDiv_13 : decode b_Ma_floorDiv 13 = .ok (.lload 4, 2) := by decide +kernel
theorem d_Ma_floorDiv_15 : decode b_Ma_floorDiv 15 = .ok (.lload_n 2, 1) := by decide +kernel
theorem d_Ma_floorDiv_16 : decode b_Ma_floorDiv 16 = .ok (.lmul, 1) := by decide +kernel
theorem d_Ma_floorDiv_17 : decode b_Ma_floorDiv 17 = .ok (.lload_n 0, 1) := by decide +kernel
theorem d_Ma_floorDiv_18 : decode b_Ma_floorDiv 18 = .ok (.lcmp, 1) := by decide +kernel
theorem d_Ma_floorDiv_19 : decode b_Ma_floorDiv 19 = .ok (.ifCond .eq 8, 3) := by decide +kernel
theorem d_Ma_floorDiv_22 : decode b_Ma_floorDiv 22 = .ok (.lload 4, 2) := by decide +kernel
theorem d_Ma_floorDiv_24 : decode b_Ma_floorDiv 24 = .ok (.lconst 1, 1) := by decide +kernel
theorem d_Ma_floorDiv_25 : decode b_Ma_floorDiv 25 = .ok (.lsub, 1) := by decide +kernel
theorem d_Ma_floorDiv_26 : decode b_Ma_floorDiv 26 = .ok (.lreturn, 1) := by decide +kernel
theorem d_Ma_floorDiv_27 : decode b_Ma_floorDiv 27 = .ok (.lload 4, 2) := by decide +kernel
theorem d_Ma_floorDiv_29 : decode b_Ma_floorDiv 29 = .ok (.lreturn, 1) := by decide +kernel
abbrev b_B_reckonGreatest : ByteArray := prog_2_method_7_code
abbrev y_B_reckonGreatest : MethodName := ⟨"OldBeams$Beam", "reckonGreatest", "()V"⟩
theorem d_B_reckonGreatest_0 : decode b_B_reckonGreatest 0 = .ok (.aload_n 0, 1) := by decide +kernel
theorem d_B_reckonGreatest_1 : decode b_B_reckonGreatest 1 = .ok (.lconst 0, 1) := by decide +kernel
theorem d_B_reckonGreatest_2 : decode b_B_reckonGreatest 2 = .ok (.putfield 61, 3) := by decide +kernel
theorem d_B_reckonGreatest_5 : decode b_B_reckonGreatest 5 = .ok (.aload_n 0, 1) := by decide +kernel
theorem d_B_reckonGreatest_6 : decode b_B_reckonGreatest 6 = .ok (.iconst 0, 1) := by decide +kernel
theorem d_B_reckonGreatest_7 : decode b_B_reckonGreatest 7 = .ok (.putfield 65, 3) := by decide +kernel
theorem d_B_reckonGreatest_10 : decode b_B_reckonGreatest 10 = .ok (.lconst 0, 1) := by decide +kernel
theorem d_B_reckonGreatest_11 : decode b_B_reckonGreatest 11 = .ok (.lstore_n 1, 1) := by decide +kernel
theorem d_B_reckonGreatest_12 : decode b_B_reckonGreatest 12 = .ok (.lconst 0, 1) := by decide +kernel
theorem d_B_reckonGreatest_13 : decode b_B_reckonGreatest 13 = .ok (.lstore_n 3, 1) := by decide +kernel
theorem d_B_reckonGreatest_14 : decode b_B_reckonGreatest 14 = .ok (.iconst 0, 1) := by decide +kernel
theorem d_B_reckonGreatest_15 : decode b_B_reckonGreatest 15 = .ok (.istore 5, 2) := by decide +kernel
theorem d_B_reckonGreatest_17 : decode b_B_reckonGreatest 17 = .ok (.iload 5, 2) := by decide +kernel
theorem d_B_reckonGreatest_19 : decode b_B_reckonGreatest 19 = .ok (.aload_n 0, 1) := by decide +kernel
theorem d_B_reckonGreatest_20 : decode b_B_reckonGreatest 20 = .ok (.getfield 35, 3) := by decide +kernel
theorem d_B_reckonGreatest_23 : decode b_B_reckonGreatest 23 = .ok (.if_icmp .gt 91, 3) := by decide +kernel
theorem d_B_reckonGreatest_26 : decode b_B_reckonGreatest 26 = .ok (.lload_n 1, 1) := by decide +kernel
theorem d_B_reckonGreatest_27 : decode b_B_reckonGreatest 27 = .ok (.invokestatic 68, 3) := by decide +kernel
theorem d_B_reckonGreatest_30 : decode b_B_reckonGreatest 30 = .ok (.lstore 6, 2) := by decide +kernel
theorem d_B_reckonGreatest_32 : decode b_B_reckonGreatest 32 = .ok (.lload 6, 2) := by decide +kernel
theorem d_B_reckonGreatest_34 : decode b_B_reckonGreatest 34 = .ok (.aload_n 0, 1) := by decide +kernel
theorem d_B_reckonGreatest_35 : decode b_B_reckonGreatest 35 = .ok (.getfield 61, 3) := by decide +kernel
theorem d_B_reckonGreatest_38 : decode b_B_reckonGreatest 38 = .ok (.lcmp, 1) := by decide +kernel
theorem d_B_reckonGreatest_39 : decode b_B_reckonGreatest 39 = .ok (.ifCond .le 15, 3) := by decide +kernel
theorem d_B_reckonGreatest_42 : decode b_B_reckonGreatest 42 = .ok (.aload_n 0, 1) := by decide +kernel
theorem d_B_reckonGreatest_43 : decode b_B_reckonGreatest 43 = .ok (.lload 6, 2) := by decide +kernel
theorem d_B_reckonGreatest_45 : decode b_B_reckonGreatest 45 = .ok (.putfield 61, 3) := by decide +kernel
theorem d_B_reckonGreatest_48 : decode b_B_reckonGreatest 48 = .ok (.aload_n 0, 1) := by decide +kernel
theorem d_B_reckonGreatest_49 : decode b_B_reckonGreatest 49 = .ok (.iload 5, 2) := by decide +kernel
theorem d_B_reckonGreatest_51 : decode b_B_reckonGreatest 51 = .ok (.putfield 65, 3) := by decide +kernel
theorem d_B_reckonGreatest_54 : decode b_B_reckonGreatest 54 = .ok (.lload_n 3, 1) := by decide +kernel
theorem d_B_reckonGreatest_55 : decode b_B_reckonGreatest 55 = .ok (.aload_n 0, 1) := by decide +kernel
theorem d_B_reckonGreatest_56 : decode b_B_reckonGreatest 56 = .ok (.getfield 25, 3) := by decide +kernel
theorem d_B_reckonGreatest_59 : decode b_B_reckonGreatest 59 = .ok (.iload 5, 2) := by decide +kernel
theorem d_B_reckonGreatest_61 : decode b_B_reckonGreatest 61 = .ok (.laload, 1) := by decide +kernel
theorem d_B_reckonGreatest_62 : decode b_B_reckonGreatest 62 = .ok (.ladd, 1) := by decide +kernel
theorem d_B_reckonGreatest_63 : decode b_B_reckonGreatest 63 = .ok (.lstore_n 3, 1) := by decide +kernel
theorem d_B_reckonGreatest_64 : decode b_B_reckonGreatest 64 = .ok (.iload 5, 2) := by decide +kernel
theorem d_B_reckonGreatest_66 : decode b_B_reckonGreatest 66 = .ok (.aload_n 0, 1) := by decide +kernel
theorem d_B_reckonGreatest_67 : decode b_B_reckonGreatest 67 = .ok (.getfield 9, 3) := by decide +kernel
theorem d_B_reckonGreatest_70 : decode b_B_reckonGreatest 70 = .ok (.iconst 0, 1) := by decide +kernel
theorem d_B_reckonGreatest_71 : decode b_B_reckonGreatest 71 = .ok (.iaload, 1) := by decide +kernel
theorem d_B_reckonGreatest_72 : decode b_B_reckonGreatest 72 = .ok (.if_icmp .ne 12, 3) := by decide +kernel
theorem d_B_reckonGreatest_75 : decode b_B_reckonGreatest 75 = .ok (.lload_n 3, 1) := by decide +kernel
theorem d_B_reckonGreatest_76 : decode b_B_reckonGreatest 76 = .ok (.aload_n 0, 1) := by decide +kernel
theorem d_B_reckonGreatest_77 : decode b_B_reckonGreatest 77 = .ok (.getfield 28, 3) := by decide +kernel
theorem d_B_reckonGreatest_80 : decode b_B_reckonGreatest 80 = .ok (.iconst 0, 1) := by decide +kernel
theorem d_B_reckonGreatest_81 : decode b_B_reckonGreatest 81 = .ok (.laload, 1) := by decide +kernel
theorem d_B_reckonGreatest_82 : decode b_B_reckonGreatest 82 = .ok (.lsub, 1) := by decide +kernel
theorem d_B_reckonGreatest_83 : decode b_B_reckonGreatest 83 = .ok (.lstore_n 3, 1) := by decide +kernel
theorem d_B_reckonGreatest_84 : decode b_B_reckonGreatest 84 = .ok (.iload 5, 2) := by decide +kernel
theorem d_B_reckonGreatest_86 : decode b_B_reckonGreatest 86 = .ok (.aload_n 0, 1) := by decide +kernel
theorem d_B_reckonGreatest_87 : decode b_B_reckonGreatest 87 = .ok (.getfield 9, 3) := by decide +kernel
theorem d_B_reckonGreatest_90 : decode b_B_reckonGreatest 90 = .ok (.iconst 1, 1) := by decide +kernel
theorem d_B_reckonGreatest_91 : decode b_B_reckonGreatest 91 = .ok (.iaload, 1) := by decide +kernel
theorem d_B_reckonGreatest_92 : decode b_B_reckonGreatest 92 = .ok (.if_icmp .ne 12, 3) := by decide +kernel
theorem d_B_reckonGreatest_95 : decode b_B_reckonGreatest 95 = .ok (.lload_n 3, 1) := by decide +kernel
theorem d_B_reckonGreatest_96 : decode b_B_reckonGreatest 96 = .ok (.aload_n 0, 1) := by decide +kernel
theorem d_B_reckonGreatest_97 : decode b_B_reckonGreatest 97 = .ok (.getfield 28, 3) := by decide +kernel
theorem d_B_reckonGreatest_100 : decode b_B_reckonGreatest 100 = .ok (.iconst 1, 1) := by decide +kernel
theorem d_B_reckonGreatest_101 : decode b_B_reckonGreatest 101 = .ok (.laload, 1) := by decide +kernel
theorem d_B_reckonGreatest_102 : decode b_B_reckonGreatest 102 = .ok (.lsub, 1) := by decide +kernel
theorem d_B_reckonGreatest_103 : decode b_B_reckonGreatest 103 = .ok (.lstore_n 3, 1) := by decide +kernel
theorem d_B_reckonGreatest_104 : decode b_B_reckonGreatest 104 = .ok (.lload_n 1, 1) := by decide +kernel
theorem d_B_reckonGreatest_105 : decode b_B_reckonGreatest 105 = .ok (.lload_n 3, 1) := by decide +kernel
theorem d_B_reckonGreatest_106 : decode b_B_reckonGreatest 106 = .ok (.ladd, 1) := by decide +kernel
theorem d_B_reckonGreatest_107 : decode b_B_reckonGreatest 107 = .ok (.lstore_n 1, 1) := by decide +kernel
theorem d_B_reckonGreatest_108 : decode b_B_reckonGreatest 108 = .ok (.iinc 5 1, 3) := by decide +kernel
theorem d_B_reckonGreatest_111 : decode b_B_reckonGreatest 111 = .ok (.goto (-94), 3) := by decide +kernel
theorem d_B_reckonGreatest_114 : decode b_B_reckonGreatest 114 = .ok (.return_, 1) := by decide +kernel
abbrev b_Ma_abs : ByteArray := prog_9_method_61_code
abbrev y_Ma_abs : MethodName := ⟨"java/lang/Math", "abs", "(J)J"⟩
theorem d_Ma_abs_0 : decode b_Ma_abs 0 = .ok (.lload_n 0, 1) := by decide +kernel
theorem d_Ma_abs_1 : decode b_Ma_abs 1 = .ok (.lconst 0, 1) := by decide +kernel
theorem d_Ma_abs_2 : decode b_Ma_abs 2 = .ok (.lcmp, 1) := by decide +kernel
theorem d_Ma_abs_3 : decode b_Ma_abs 3 = .ok (.ifCond .ge 8, 3) := by decide +kernel
theorem d_Ma_abs_6 : decode b_Ma_abs 6 = .ok (.lload_n 0, 1) := by decide +kernel
theorem d_Ma_abs_7 : decode b_Ma_abs 7 = .ok (.lneg, 1) := by decide +kernel
theorem d_Ma_abs_8 : decode b_Ma_abs 8 = .ok (.goto 4, 3) := by decide +kernel
theorem d_Ma_abs_11 : decode b_Ma_abs 11 = .ok (.lload_n 0, 1) := by decide +kernel
theorem d_Ma_abs_12 : decode b_Ma_abs 12 = .ok (.lreturn, 1) := by decide +kernel
abbrev b_B_bendingAt : ByteArray := prog_2_method_8_code
abbrev y_B_bendingAt : MethodName := ⟨"OldBeams$Beam", "bendingAt", "(I)J"⟩
theorem d_B_bendingAt_0 : decode b_B_bendingAt 0 = .ok (.lconst 0, 1) := by decide +kernel
theorem d_B_bendingAt_1 : decode b_B_bendingAt 1 = .ok (.lstore_n 2, 1) := by decide +kernel
theorem d_B_bendingAt_2 : decode b_B_bendingAt 2 = .ok (.iconst 0, 1) := by decide +kernel
theorem d_B_bendingAt_3 : decode b_B_bendingAt 3 = .ok (.istore 4, 2) := by decide +kernel
theorem d_B_bendingAt_5 : decode b_B_bendingAt 5 = .ok (.iload 4, 2) := by decide +kernel
theorem d_B_bendingAt_7 : decode b_B_bendingAt 7 = .ok (.iload_n 1, 1) := by decide +kernel
theorem d_B_bendingAt_8 : decode b_B_bendingAt 8 = .ok (.if_icmp .ge 34, 3) := by decide +kernel
theorem d_B_bendingAt_11 : decode b_B_bendingAt 11 = .ok (.iload 4, 2) := by decide +kernel
theorem d_B_bendingAt_13 : decode b_B_bendingAt 13 = .ok (.aload_n 0, 1) := by decide +kernel
theorem d_B_bendingAt_14 : decode b_B_bendingAt 14 = .ok (.getfield 35, 3) := by decide +kernel
theorem d_B_bendingAt_17 : decode b_B_bendingAt 17 = .ok (.if_icmp .gt 25, 3) := by decide +kernel
theorem d_B_bendingAt_20 : decode b_B_bendingAt 20 = .ok (.lload_n 2, 1) := by decide +kernel
theorem d_B_bendingAt_21 : decode b_B_bendingAt 21 = .ok (.aload_n 0, 1) := by decide +kernel
theorem d_B_bendingAt_22 : decode b_B_bendingAt 22 = .ok (.getfield 25, 3) := by decide +kernel
theorem d_B_bendingAt_25 : decode b_B_bendingAt 25 = .ok (.iload 4, 2) := by decide +kernel
theorem d_B_bendingAt_27 : decode b_B_bendingAt 27 = .ok (.laload, 1) := by decide +kernel
theorem d_B_bendingAt_28 : decode b_B_bendingAt 28 = .ok (.iload_n 1, 1) := by decide +kernel
theorem d_B_bendingAt_29 : decode b_B_bendingAt 29 = .ok (.iload 4, 2) := by decide +kernel
theorem d_B_bendingAt_31 : decode b_B_bendingAt 31 = .ok (.isub, 1) := by decide +kernel
theorem d_B_bendingAt_32 : decode b_B_bendingAt 32 = .ok (.i2l, 1) := by decide +kernel
theorem d_B_bendingAt_33 : decode b_B_bendingAt 33 = .ok (.lmul, 1) := by decide +kernel
theorem d_B_bendingAt_34 : decode b_B_bendingAt 34 = .ok (.ladd, 1) := by decide +kernel
theorem d_B_bendingAt_35 : decode b_B_bendingAt 35 = .ok (.lstore_n 2, 1) := by decide +kernel
theorem d_B_bendingAt_36 : decode b_B_bendingAt 36 = .ok (.iinc 4 1, 3) := by decide +kernel
theorem d_B_bendingAt_39 : decode b_B_bendingAt 39 = .ok (.goto (-34), 3) := by decide +kernel
theorem d_B_bendingAt_42 : decode b_B_bendingAt 42 = .ok (.iconst 0, 1) := by decide +kernel
theorem d_B_bendingAt_43 : decode b_B_bendingAt 43 = .ok (.istore 4, 2) := by decide +kernel
theorem d_B_bendingAt_45 : decode b_B_bendingAt 45 = .ok (.iload 4, 2) := by decide +kernel
theorem d_B_bendingAt_47 : decode b_B_bendingAt 47 = .ok (.iconst 2, 1) := by decide +kernel
theorem d_B_bendingAt_48 : decode b_B_bendingAt 48 = .ok (.if_icmp .ge 41, 3) := by decide +kernel
theorem d_B_bendingAt_51 : decode b_B_bendingAt 51 = .ok (.aload_n 0, 1) := by decide +kernel
theorem d_B_bendingAt_52 : decode b_B_bendingAt 52 = .ok (.getfield 9, 3) := by decide +kernel
theorem d_B_bendingAt_55 : decode b_B_bendingAt 55 = .ok (.iload 4, 2) := by decide +kernel
theorem d_B_bendingAt_57 : decode b_B_bendingAt 57 = .ok (.iaload, 1) := by decide +kernel
theorem d_B_bendingAt_58 : decode b_B_bendingAt 58 = .ok (.iload_n 1, 1) := by decide +kernel
theorem d_B_bendingAt_59 : decode b_B_bendingAt 59 = .ok (.if_icmp .ge 24, 3) := by decide +kernel
theorem d_B_bendingAt_62 : decode b_B_bendingAt 62 = .ok (.lload_n 2, 1) := by decide +kernel
theorem d_B_bendingAt_63 : decode b_B_bendingAt 63 = .ok (.aload_n 0, 1) := by decide +kernel
theorem d_B_bendingAt_64 : decode b_B_bendingAt 64 = .ok (.getfield 28, 3) := by decide +kernel
theorem d_B_bendingAt_67 : decode b_B_bendingAt 67 = .ok (.iload 4, 2) := by decide +kernel
theorem d_B_bendingAt_69 : decode b_B_bendingAt 69 = .ok (.laload, 1) := by decide +kernel
theorem d_B_bendingAt_70 : decode b_B_bendingAt 70 = .ok (.iload_n 1, 1) := by decide +kernel
theorem d_B_bendingAt_71 : decode b_B_bendingAt 71 = .ok (.aload_n 0, 1) := by decide +kernel
theorem d_B_bendingAt_72 : decode b_B_bendingAt 72 = .ok (.getfield 9, 3) := by decide +kernel
theorem d_B_bendingAt_75 : decode b_B_bendingAt 75 = .ok (.iload 4, 2) := by decide +kernel
theorem d_B_bendingAt_77 : decode b_B_bendingAt 77 = .ok (.iaload, 1) := by decide +kernel
theorem d_B_bendingAt_78 : decode b_B_bendingAt 78 = .ok (.isub, 1) := by decide +kernel
theorem d_B_bendingAt_79 : decode b_B_bendingAt 79 = .ok (.i2l, 1) := by decide +kernel
theorem d_B_bendingAt_80 : decode b_B_bendingAt 80 = .ok (.lmul, 1) := by decide +kernel
theorem d_B_bendingAt_81 : decode b_B_bendingAt 81 = .ok (.lsub, 1) := by decide +kernel
theorem d_B_bendingAt_82 : decode b_B_bendingAt 82 = .ok (.lstore_n 2, 1) := by decide +kernel
theorem d_B_bendingAt_83 : decode b_B_bendingAt 83 = .ok (.iinc 4 1, 3) := by decide +kernel
theorem d_B_bendingAt_86 : decode b_B_bendingAt 86 = .ok (.goto (-41), 3) := by decide +kernel
theorem d_B_bendingAt_89 : decode b_B_bendingAt 89 = .ok (.lload_n 2, 1) := by decide +kernel
theorem d_B_bendingAt_90 : decode b_B_bendingAt 90 = .ok (.lreturn, 1) := by decide +kernel
abbrev b_B_isLifted : ByteArray := prog_2_method_9_code
abbrev y_B_isLifted : MethodName := ⟨"OldBeams$Beam", "isLifted", "()Z"⟩
theorem d_B_isLifted_0 : decode b_B_isLifted 0 = .ok (.aload_n 0, 1) := by decide +kernel
theorem d_B_isLifted_1 : decode b_B_isLifted 1 = .ok (.getfield 28, 3) := by decide +kernel
theorem d_B_isLifted_4 : decode b_B_isLifted 4 = .ok (.iconst 0, 1) := by decide +kernel
theorem d_B_isLifted_5 : decode b_B_isLifted 5 = .ok (.laload, 1) := by decide +kernel
theorem d_B_isLifted_6 : decode b_B_isLifted 6 = .ok (.lconst 0, 1) := by decide +kernel
theorem d_B_isLifted_7 : decode b_B_isLifted 7 = .ok (.lcmp, 1) := by decide +kernel
theorem d_B_isLifted_8 : decode b_B_isLifted 8 = .ok (.ifCond .lt 14, 3) := by decide +kernel
theorem d_B_isLifted_11 : decode b_B_isLifted 11 = .ok (.aload_n 0, 1) := by decide +kernel
theorem d_B_isLifted_12 : decode b_B_isLifted 12 = .ok (.getfield 28, 3) := by decide +kernel
theorem d_B_isLifted_15 : decode b_B_isLifted 15 = .ok (.iconst 1, 1) := by decide +kernel
theorem d_B_isLifted_16 : decode b_B_isLifted 16 = .ok (.laload, 1) := by decide +kernel
theorem d_B_isLifted_17 : decode b_B_isLifted 17 = .ok (.lconst 0, 1) := by decide +kernel
theorem d_B_isLifted_18 : decode b_B_isLifted 18 = .ok (.lcmp, 1) := by decide +kernel
theorem d_B_isLifted_19 : decode b_B_isLifted 19 = .ok (.ifCond .ge 7, 3) := by decide +kernel
theorem d_B_isLifted_22 : decode b_B_isLifted 22 = .ok (.iconst 1, 1) := by decide +kernel
theorem d_B_isLifted_23 : decode b_B_isLifted 23 = .ok (.goto 4, 3) := by decide +kernel
theorem d_B_isLifted_26 : decode b_B_isLifted 26 = .ok (.iconst 0, 1) := by decide +kernel
theorem d_B_isLifted_27 : decode b_B_isLifted 27 = .ok (.ireturn, 1) := by decide +kernel
abbrev b_F_holdsWith : ByteArray := prog_4_method_18_code
abbrev y_F_holdsWith : MethodName := ⟨"OldBeams$Frame", "holdsWith", "(II)Z"⟩
theorem d_F_holdsWith_0 : decode b_F_holdsWith 0 = .ok (.aload_n 0, 1) := by decide +kernel
theorem d_F_holdsWith_1 : decode b_F_holdsWith 1 = .ok (.getfield 18, 3) := by decide +kernel
theorem d_F_holdsWith_4 : decode b_F_holdsWith 4 = .ok (.iload_n 1, 1) := by decide +kernel
theorem d_F_holdsWith_5 : decode b_F_holdsWith 5 = .ok (.aaload, 1) := by decide +kernel
theorem d_F_holdsWith_6 : decode b_F_holdsWith 6 = .ok (.astore_n 3, 1) := by decide +kernel
theorem d_F_holdsWith_7 : decode b_F_holdsWith 7 = .ok (.aload_n 3, 1) := by decide +kernel
theorem d_F_holdsWith_8 : decode b_F_holdsWith 8 = .ok (.invokevirtual 138, 3) := by decide +kernel
theorem d_F_holdsWith_11 : decode b_F_holdsWith 11 = .ok (.ifCond .ne 26, 3) := by decide +kernel
theorem d_F_holdsWith_14 : decode b_F_holdsWith 14 = .ok (.aload_n 3, 1) := by decide +kernel
theorem d_F_holdsWith_15 : decode b_F_holdsWith 15 = .ok (.getfield 142, 3) := by decide +kernel
theorem d_F_holdsWith_18 : decode b_F_holdsWith 18 = .ok (.aload_n 0, 1) := by decide +kernel
theorem d_F_holdsWith_19 : decode b_F_holdsWith 19 = .ok (.iload_n 1, 1) := by decide +kernel
theorem d_F_holdsWith_20 : decode b_F_holdsWith 20 = .ok (.invokevirtual 146, 3) := by decide +kernel
theorem d_F_holdsWith_23 : decode b_F_holdsWith 23 = .ok (.iload_n 2, 1) := by decide +kernel
theorem d_F_holdsWith_24 : decode b_F_holdsWith 24 = .ok (.imul, 1) := by decide +kernel
theorem d_F_holdsWith_25 : decode b_F_holdsWith 25 = .ok (.bipush 10, 2) := by decide +kernel
theorem d_F_holdsWith_27 : decode b_F_holdsWith 27 = .ok (.idiv, 1) := by decide +kernel
theorem d_F_holdsWith_28 : decode b_F_holdsWith 28 = .ok (.i2l, 1) := by decide +kernel
theorem d_F_holdsWith_29 : decode b_F_holdsWith 29 = .ok (.lcmp, 1) := by decide +kernel
theorem d_F_holdsWith_30 : decode b_F_holdsWith 30 = .ok (.ifCond .gt 7, 3) := by decide +kernel
theorem d_F_holdsWith_33 : decode b_F_holdsWith 33 = .ok (.iconst 1, 1) := by decide +kernel
theorem d_F_holdsWith_34 : decode b_F_holdsWith 34 = .ok (.goto 4, 3) := by decide +kernel
theorem d_F_holdsWith_37 : decode b_F_holdsWith 37 = .ok (.iconst 0, 1) := by decide +kernel
theorem d_F_holdsWith_38 : decode b_F_holdsWith 38 = .ok (.ireturn, 1) := by decide +kernel
abbrev b_K_countAt : ByteArray := prog_5_method_3_code
abbrev y_K_countAt : MethodName := ⟨"OldBeams$Looks", "countAt", "(I)I"⟩
theorem d_K_countAt_0 : decode b_K_countAt 0 = .ok (.iconst 0, 1) := by decide +kernel
theorem d_K_countAt_1 : decode b_K_countAt 1 = .ok (.istore_n 2, 1) := by decide +kernel
theorem d_K_countAt_2 : decode b_K_countAt 2 = .ok (.iconst 0, 1) := by decide +kernel
theorem d_K_countAt_3 : decode b_K_countAt 3 = .ok (.istore_n 3, 1) := by decide +kernel
theorem d_K_countAt_4 : decode b_K_countAt 4 = .ok (.iload_n 3, 1) := by decide +kernel
theorem d_K_countAt_5 : decode b_K_countAt 5 = .ok (.aload_n 0, 1) := by decide +kernel
theorem d_K_countAt_6 : decode b_K_countAt 6 = .ok (.getfield 39, 3) := by decide +kernel
theorem d_K_countAt_9 : decode b_K_countAt 9 = .ok (.if_icmp .ge 22, 3) := by decide +kernel
theorem d_K_countAt_12 : decode b_K_countAt 12 = .ok (.aload_n 0, 1) := by decide +kernel
theorem d_K_countAt_13 : decode b_K_countAt 13 = .ok (.getfield 19, 3) := by decide +kernel
theorem d_K_countAt_16 : decode b_K_countAt 16 = .ok (.iload_n 3, 1) := by decide +kernel
theorem d_K_countAt_17 : decode b_K_countAt 17 = .ok (.iaload, 1) := by decide +kernel
theorem d_K_countAt_18 : decode b_K_countAt 18 = .ok (.iload_n 1, 1) := by decide +kernel
theorem d_K_countAt_19 : decode b_K_countAt 19 = .ok (.if_icmp .ne 6, 3) := by decide +kernel
theorem d_K_countAt_22 : decode b_K_countAt 22 = .ok (.iinc 2 1, 3) := by decide +kernel
theorem d_K_countAt_25 : decode b_K_countAt 25 = .ok (.iinc 3 1, 3) := by decide +kernel
theorem d_K_countAt_28 : decode b_K_countAt 28 = .ok (.goto (-24), 3) := by decide +kernel
theorem d_K_countAt_31 : decode b_K_countAt 31 = .ok (.iload_n 2, 1) := by decide +kernel
theorem d_K_countAt_32 : decode b_K_countAt 32 = .ok (.ireturn, 1) := by decide +kernel
abbrev b_K_anyWeightLeft : ByteArray := prog_5_method_2_code
abbrev y_K_anyWeightLeft : MethodName := ⟨"OldBeams$Looks", "anyWeightLeft", "(III)Z"⟩
theorem d_K_anyWeightLeft_0 : decode b_K_anyWeightLeft 0 = .ok (.iconst 0, 1) := by decide +kernel
theorem d_K_anyWeightLeft_1 : decode b_K_anyWeightLeft 1 = .ok (.istore 4, 2) := by decide +kernel
theorem d_K_anyWeightLeft_3 : decode b_K_anyWeightLeft 3 = .ok (.iload 4, 2) := by decide +kernel
theorem d_K_anyWeightLeft_5 : decode b_K_anyWeightLeft 5 = .ok (.bipush 11, 2) := by decide +kernel
theorem d_K_anyWeightLeft_7 : decode b_K_anyWeightLeft 7 = .ok (.if_icmp .ge 37, 3) := by decide +kernel
theorem d_K_anyWeightLeft_10 : decode b_K_anyWeightLeft 10 = .ok (.iload 4, 2) := by decide +kernel
theorem d_K_anyWeightLeft_12 : decode b_K_anyWeightLeft 12 = .ok (.iload_n 2, 1) := by decide +kernel
theorem d_K_anyWeightLeft_13 : decode b_K_anyWeightLeft 13 = .ok (.if_icmp .ne 7, 3) := by decide +kernel
theorem d_K_anyWeightLeft_16 : decode b_K_anyWeightLeft 16 = .ok (.iload_n 3, 1) := by decide +kernel
theorem d_K_anyWeightLeft_17 : decode b_K_anyWeightLeft 17 = .ok (.goto 12, 3) := by decide +kernel
theorem d_K_anyWeightLeft_20 : decode b_K_anyWeightLeft 20 = .ok (.aload_n 0, 1) := by decide +kernel
theorem d_K_anyWeightLeft_21 : decode b_K_anyWeightLeft 21 = .ok (.getfield 11, 3) := by decide +kernel
theorem d_K_anyWeightLeft_24 : decode b_K_anyWeightLeft 24 = .ok (.iload_n 1, 1) := by decide +kernel
theorem d_K_anyWeightLeft_25 : decode b_K_anyWeightLeft 25 = .ok (.aaload, 1) := by decide +kernel
theorem d_K_anyWeightLeft_26 : decode b_K_anyWeightLeft 26 = .ok (.iload 4, 2) := by decide +kernel
theorem d_K_anyWeightLeft_28 : decode b_K_anyWeightLeft 28 = .ok (.iaload, 1) := by decide +kernel
theorem d_K_anyWeightLeft_29 : decode b_K_anyWeightLeft 29 = .ok (.istore 5, 2) := by decide +kernel
theorem d_K_anyWeightLeft_31 : decode b_K_anyWeightLeft 31 = .ok (.iload 5, 2) := by decide +kernel
theorem d_K_anyWeightLeft_33 : decode b_K_anyWeightLeft 33 = .ok (.ifCond .le 5, 3) := by decide +kernel
theorem d_K_anyWeightLeft_36 : decode b_K_anyWeightLeft 36 = .ok (.iconst 1, 1) := by decide +kernel
theorem d_K_anyWeightLeft_37 : decode b_K_anyWeightLeft 37 = .ok (.ireturn, 1) := by decide +kernel
theorem d_K_anyWeightLeft_38 : decode b_K_anyWeightLeft 38 = .ok (.iinc 4 1, 3) := by decide +kernel
theorem d_K_anyWeightLeft_41 : decode b_K_anyWeightLeft 41 = .ok (.goto (-38), 3) := by decide +kernel
theorem d_K_anyWeightLeft_44 : decode b_K_anyWeightLeft 44 = .ok (.iconst 0, 1) := by decide +kernel
theorem d_K_anyWeightLeft_45 : decode b_K_anyWeightLeft 45 = .ok (.ireturn, 1) := by decide +kernel
abbrev b_K_isUsed : ByteArray := prog_5_method_4_code
abbrev y_K_isUsed : MethodName := ⟨"OldBeams$Looks", "isUsed", "(I)Z"⟩
theorem d_K_isUsed_0 : decode b_K_isUsed 0 = .ok (.iconst 0, 1) := by decide +kernel
theorem d_K_isUsed_1 : decode b_K_isUsed 1 = .ok (.istore_n 2, 1) := by decide +kernel
theorem d_K_isUsed_2 : decode b_K_isUsed 2 = .ok (.iload_n 2, 1) := by decide +kernel
theorem d_K_isUsed_3 : decode b_K_isUsed 3 = .ok (.aload_n 0, 1) := by decide +kernel
theorem d_K_isUsed_4 : decode b_K_isUsed 4 = .ok (.getfield 39, 3) := by decide +kernel
theorem d_K_isUsed_7 : decode b_K_isUsed 7 = .ok (.if_icmp .ge 21, 3) := by decide +kernel
theorem d_K_isUsed_10 : decode b_K_isUsed 10 = .ok (.aload_n 0, 1) := by decide +kernel
theorem d_K_isUsed_11 : decode b_K_isUsed 11 = .ok (.getfield 23, 3) := by decide +kernel
theorem d_K_isUsed_14 : decode b_K_isUsed 14 = .ok (.iload_n 2, 1) := by decide +kernel
theorem d_K_isUsed_15 : decode b_K_isUsed 15 = .ok (.iaload, 1) := by decide +kernel
theorem d_K_isUsed_16 : decode b_K_isUsed 16 = .ok (.iload_n 1, 1) := by decide +kernel
theorem d_K_isUsed_17 : decode b_K_isUsed 17 = .ok (.if_icmp .ne 5, 3) := by decide +kernel
theorem d_K_isUsed_20 : decode b_K_isUsed 20 = .ok (.iconst 1, 1) := by decide +kernel
theorem d_K_isUsed_21 : decode b_K_isUsed 21 = .ok (.ireturn, 1) := by decide +kernel
theorem d_K_isUsed_22 : decode b_K_isUsed 22 = .ok (.iinc 2 1, 3) := by decide +kernel
theorem d_K_isUsed_25 : decode b_K_isUsed 25 = .ok (.goto (-23), 3) := by decide +kernel
theorem d_K_isUsed_28 : decode b_K_isUsed 28 = .ok (.iconst 0, 1) := by decide +kernel
theorem d_K_isUsed_29 : decode b_K_isUsed 29 = .ok (.ireturn, 1) := by decide +kernel
abbrev b_K_lastYear : ByteArray := prog_5_method_5_code
abbrev y_K_lastYear : MethodName := ⟨"OldBeams$Looks", "lastYear", "()I"⟩
theorem d_K_lastYear_0 : decode b_K_lastYear 0 = .ok (.aload_n 0, 1) := by decide +kernel
theorem d_K_lastYear_1 : decode b_K_lastYear 1 = .ok (.getfield 39, 3) := by decide +kernel
theorem d_K_lastYear_4 : decode b_K_lastYear 4 = .ok (.ifCond .le 17, 3) := by decide +kernel
theorem d_K_lastYear_7 : decode b_K_lastYear 7 = .ok (.aload_n 0, 1) := by decide +kernel
theorem d_K_lastYear_8 : decode b_K_lastYear 8 = .ok (.getfield 29, 3) := by decide +kernel
theorem d_K_lastYear_11 : decode b_K_lastYear 11 = .ok (.aload_n 0, 1) := by decide +kernel
theorem d_K_lastYear_12 : decode b_K_lastYear 12 = .ok (.getfield 39, 3) := by decide +kernel
theorem d_K_lastYear_15 : decode b_K_lastYear 15 = .ok (.iconst 1, 1) := by decide +kernel
theorem d_K_lastYear_16 : decode b_K_lastYear 16 = .ok (.isub, 1) := by decide +kernel
theorem d_K_lastYear_17 : decode b_K_lastYear 17 = .ok (.iaload, 1) := by decide +kernel
theorem d_K_lastYear_18 : decode b_K_lastYear 18 = .ok (.goto 4, 3) := by decide +kernel
theorem d_K_lastYear_21 : decode b_K_lastYear 21 = .ok (.iconst 0, 1) := by decide +kernel
theorem d_K_lastYear_22 : decode b_K_lastYear 22 = .ok (.ireturn, 1) := by decide +kernel
abbrev b_K_addLook : ByteArray := prog_5_method_6_code
abbrev y_K_addLook : MethodName := ⟨"OldBeams$Looks", "addLook", "(IIII)I"⟩
theorem d_K_addLook_0 : decode b_K_addLook 0 = .ok (.aload_n 0, 1) := by decide +kernel
theorem d_K_addLook_1 : decode b_K_addLook 1 = .ok (.getfield 39, 3) := by decide +kernel
theorem d_K_addLook_4 : decode b_K_addLook 4 = .ok (.istore 5, 2) := by decide +kernel
theorem d_K_addLook_6 : decode b_K_addLook 6 = .ok (.aload_n 0, 1) := by decide +kernel
theorem d_K_addLook_7 : decode b_K_addLook 7 = .ok (.getfield 19, 3) := by decide +kernel
theorem d_K_addLook_10 : decode b_K_addLook 10 = .ok (.iload 5, 2) := by decide +kernel
theorem d_K_addLook_12 : decode b_K_addLook 12 = .ok (.iload_n 1, 1) := by decide +kernel
theorem d_K_addLook_13 : decode b_K_addLook 13 = .ok (.iastore, 1) := by decide +kernel
theorem d_K_addLook_14 : decode b_K_addLook 14 = .ok (.aload_n 0, 1) := by decide +kernel
theorem d_K_addLook_15 : decode b_K_addLook 15 = .ok (.getfield 23, 3) := by decide +kernel
theorem d_K_addLook_18 : decode b_K_addLook 18 = .ok (.iload 5, 2) := by decide +kernel
theorem d_K_addLook_20 : decode b_K_addLook 20 = .ok (.iload_n 2, 1) := by decide +kernel
theorem d_K_addLook_21 : decode b_K_addLook 21 = .ok (.iastore, 1) := by decide +kernel
theorem d_K_addLook_22 : decode b_K_addLook 22 = .ok (.aload_n 0, 1) := by decide +kernel
theorem d_K_addLook_23 : decode b_K_addLook 23 = .ok (.getfield 26, 3) := by decide +kernel
theorem d_K_addLook_26 : decode b_K_addLook 26 = .ok (.iload 5, 2) := by decide +kernel
theorem d_K_addLook_28 : decode b_K_addLook 28 = .ok (.iload_n 3, 1) := by decide +kernel
theorem d_K_addLook_29 : decode b_K_addLook 29 = .ok (.iastore, 1) := by decide +kernel
theorem d_K_addLook_30 : decode b_K_addLook 30 = .ok (.aload_n 0, 1) := by decide +kernel
theorem d_K_addLook_31 : decode b_K_addLook 31 = .ok (.getfield 29, 3) := by decide +kernel
theorem d_K_addLook_34 : decode b_K_addLook 34 = .ok (.iload 5, 2) := by decide +kernel
theorem d_K_addLook_36 : decode b_K_addLook 36 = .ok (.iload 4, 2) := by decide +kernel
theorem d_K_addLook_38 : decode b_K_addLook 38 = .ok (.iastore, 1) := by decide +kernel
theorem d_K_addLook_39 : decode b_K_addLook 39 = .ok (.aload_n 0, 1) := by decide +kernel
theorem d_K_addLook_40 : decode b_K_addLook 40 = .ok (.iload 5, 2) := by decide +kernel
theorem d_K_addLook_42 : decode b_K_addLook 42 = .ok (.iconst 1, 1) := by decide +kernel
theorem d_K_addLook_43 : decode b_K_addLook 43 = .ok (.iadd, 1) := by decide +kernel
theorem d_K_addLook_44 : decode b_K_addLook 44 = .ok (.putfield 39, 3) := by decide +kernel
theorem d_K_addLook_47 : decode b_K_addLook 47 = .ok (.iload 5, 2) := by decide +kernel
theorem d_K_addLook_49 : decode b_K_addLook 49 = .ok (.ireturn, 1) := by decide +kernel
abbrev b_K_reckonOdds : ByteArray := prog_5_method_7_code
abbrev y_K_reckonOdds : MethodName := ⟨"OldBeams$Looks", "reckonOdds", "(II)I"⟩
theorem d_K_reckonOdds_0 : decode b_K_reckonOdds 0 = .ok (.iconst 0, 1) := by decide +kernel
theorem d_K_reckonOdds_1 : decode b_K_reckonOdds 1 = .ok (.istore_n 3, 1) := by decide +kernel
theorem d_K_reckonOdds_2 : decode b_K_reckonOdds 2 = .ok (.iload_n 3, 1) := by decide +kernel
theorem d_K_reckonOdds_3 : decode b_K_reckonOdds 3 = .ok (.bipush 11, 2) := by decide +kernel
theorem d_K_reckonOdds_5 : decode b_K_reckonOdds 5 = .ok (.if_icmp .ge 24, 3) := by decide +kernel
theorem d_K_reckonOdds_8 : decode b_K_reckonOdds 8 = .ok (.aload_n 0, 1) := by decide +kernel
theorem d_K_reckonOdds_9 : decode b_K_reckonOdds 9 = .ok (.getfield 32, 3) := by decide +kernel
theorem d_K_reckonOdds_12 : decode b_K_reckonOdds 12 = .ok (.iload_n 3, 1) := by decide +kernel
theorem d_K_reckonOdds_13 : decode b_K_reckonOdds 13 = .ok (.aload_n 0, 1) := by decide +kernel
theorem d_K_reckonOdds_14 : decode b_K_reckonOdds 14 = .ok (.getfield 11, 3) := by decide +kernel
theorem d_K_reckonOdds_17 : decode b_K_reckonOdds 17 = .ok (.iload_n 1, 1) := by decide +kernel
theorem d_K_reckonOdds_18 : decode b_K_reckonOdds 18 = .ok (.aaload, 1) := by decide +kernel
theorem d_K_reckonOdds_19 : decode b_K_reckonOdds 19 = .ok (.iload_n 3, 1) := by decide +kernel
theorem d_K_reckonOdds_20 : decode b_K_reckonOdds 20 = .ok (.iaload, 1) := by decide +kernel
theorem d_K_reckonOdds_21 : decode b_K_reckonOdds 21 = .ok (.i2l, 1) := by decide +kernel
theorem d_K_reckonOdds_22 : decode b_K_reckonOdds 22 = .ok (.lastore, 1) := by decide +kernel
theorem d_K_reckonOdds_23 : decode b_K_reckonOdds 23 = .ok (.iinc 3 1, 3) := by decide +kernel
theorem d_K_reckonOdds_26 : decode b_K_reckonOdds 26 = .ok (.goto (-24), 3) := by decide +kernel
theorem d_K_reckonOdds_29 : decode b_K_reckonOdds 29 = .ok (.ldc 43, 2) := by decide +kernel
theorem d_K_reckonOdds_31 : decode b_K_reckonOdds 31 = .ok (.istore_n 3, 1) := by decide +kernel
theorem d_K_reckonOdds_32 : decode b_K_reckonOdds 32 = .ok (.iconst 0, 1) := by decide +kernel
theorem d_K_reckonOdds_33 : decode b_K_reckonOdds 33 = .ok (.istore 4, 2) := by decide +kernel
theorem d_K_reckonOdds_35 : decode b_K_reckonOdds 35 = .ok (.iload 4, 2) := by decide +kernel
theorem d_K_reckonOdds_37 : decode b_K_reckonOdds 37 = .ok (.aload_n 0, 1) := by decide +kernel
theorem d_K_reckonOdds_38 : decode b_K_reckonOdds 38 = .ok (.getfield 39, 3) := by decide +kernel
theorem d_K_reckonOdds_41 : decode b_K_reckonOdds 41 = .ok (.if_icmp .ge 68, 3) := by decide +kernel
theorem d_K_reckonOdds_44 : decode b_K_reckonOdds 44 = .ok (.aload_n 0, 1) := by decide +kernel
theorem d_K_reckonOdds_45 : decode b_K_reckonOdds 45 = .ok (.getfield 19, 3) := by decide +kernel
theorem d_K_reckonOdds_48 : decode b_K_reckonOdds 48 = .ok (.iload 4, 2) := by decide +kernel
theorem d_K_reckonOdds_50 : decode b_K_reckonOdds 50 = .ok (.iaload, 1) := by decide +kernel
theorem d_K_reckonOdds_51 : decode b_K_reckonOdds 51 = .ok (.iload_n 1, 1) := by decide +kernel
theorem d_K_reckonOdds_52 : decode b_K_reckonOdds 52 = .ok (.if_icmp .ne 51, 3) := by decide +kernel
theorem d_K_reckonOdds_55 : decode b_K_reckonOdds 55 = .ok (.aload_n 0, 1) := by decide +kernel
theorem d_K_reckonOdds_56 : decode b_K_reckonOdds 56 = .ok (.getfield 29, 3) := by decide +kernel
theorem d_K_reckonOdds_59 : decode b_K_reckonOdds 59 = .ok (.iload 4, 2) := by decide +kernel
theorem d_K_reckonOdds_61 : decode b_K_reckonOdds 61 = .ok (.iaload, 1) := by decide +kernel
theorem d_K_reckonOdds_62 : decode b_K_reckonOdds 62 = .ok (.iload_n 2, 1) := by decide +kernel
theorem d_K_reckonOdds_63 : decode b_K_reckonOdds 63 = .ok (.if_icmp .le 6, 3) := by decide +kernel
theorem d_K_reckonOdds_66 : decode b_K_reckonOdds 66 = .ok (.goto 37, 3) := by decide +kernel
theorem d_K_reckonOdds_69 : decode b_K_reckonOdds 69 = .ok (.aload_n 0, 1) := by decide +kernel
theorem d_K_reckonOdds_70 : decode b_K_reckonOdds 70 = .ok (.aload_n 0, 1) := by decide +kernel
theorem d_K_reckonOdds_71 : decode b_K_reckonOdds 71 = .ok (.getfield 23, 3) := by decide +kernel
theorem d_K_reckonOdds_74 : decode b_K_reckonOdds 74 = .ok (.iload 4, 2) := by decide +kernel
theorem d_K_reckonOdds_76 : decode b_K_reckonOdds 76 = .ok (.iaload, 1) := by decide +kernel
theorem d_K_reckonOdds_77 : decode b_K_reckonOdds 77 = .ok (.aload_n 0, 1) := by decide +kernel
theorem d_K_reckonOdds_78 : decode b_K_reckonOdds 78 = .ok (.getfield 26, 3) := by decide +kernel
theorem d_K_reckonOdds_81 : decode b_K_reckonOdds 81 = .ok (.iload 4, 2) := by decide +kernel
theorem d_K_reckonOdds_83 : decode b_K_reckonOdds 83 = .ok (.iaload, 1) := by decide +kernel
theorem d_K_reckonOdds_84 : decode b_K_reckonOdds 84 = .ok (.invokevirtual 44, 3) := by decide +kernel
theorem d_K_reckonOdds_87 : decode b_K_reckonOdds 87 = .ok (.istore 5, 2) := by decide +kernel
theorem d_K_reckonOdds_89 : decode b_K_reckonOdds 89 = .ok (.iload 5, 2) := by decide +kernel
theorem d_K_reckonOdds_91 : decode b_K_reckonOdds 91 = .ok (.ifCond .ne 12, 3) := by decide +kernel
theorem d_K_reckonOdds_94 : decode b_K_reckonOdds 94 = .ok (.iload_n 3, 1) := by decide +kernel
theorem d_K_reckonOdds_95 : decode b_K_reckonOdds 95 = .ok (.ldc 43, 2) := by decide +kernel
theorem d_K_reckonOdds_97 : decode b_K_reckonOdds 97 = .ok (.if_icmp .ne 6, 3) := by decide +kernel
theorem d_K_reckonOdds_100 : decode b_K_reckonOdds 100 = .ok (.iload 4, 2) := by decide +kernel
theorem d_K_reckonOdds_102 : decode b_K_reckonOdds 102 = .ok (.istore_n 3, 1) := by decide +kernel
theorem d_K_reckonOdds_103 : decode b_K_reckonOdds 103 = .ok (.iinc 4 1, 3) := by decide +kernel
theorem d_K_reckonOdds_106 : decode b_K_reckonOdds 106 = .ok (.goto (-71), 3) := by decide +kernel
theorem d_K_reckonOdds_109 : decode b_K_reckonOdds 109 = .ok (.iload_n 3, 1) := by decide +kernel
theorem d_K_reckonOdds_110 : decode b_K_reckonOdds 110 = .ok (.ireturn, 1) := by decide +kernel
abbrev b_K_applyLook : ByteArray := prog_5_method_8_code
abbrev y_K_applyLook : MethodName := ⟨"OldBeams$Looks", "applyLook", "(II)Z"⟩
theorem d_K_applyLook_0 : decode b_K_applyLook 0 = .ok (.lconst 0, 1) := by decide +kernel
theorem d_K_applyLook_1 : decode b_K_applyLook 1 = .ok (.lstore_n 3, 1) := by decide +kernel
theorem d_K_applyLook_2 : decode b_K_applyLook 2 = .ok (.iconst 0, 1) := by decide +kernel
theorem d_K_applyLook_3 : decode b_K_applyLook 3 = .ok (.istore 5, 2) := by decide +kernel
theorem d_K_applyLook_5 : decode b_K_applyLook 5 = .ok (.iload 5, 2) := by decide +kernel
theorem d_K_applyLook_7 : decode b_K_applyLook 7 = .ok (.bipush 11, 2) := by decide +kernel
theorem d_K_applyLook_9 : decode b_K_applyLook 9 = .ok (.if_icmp .ge 63, 3) := by decide +kernel
theorem d_K_applyLook_12 : decode b_K_applyLook 12 = .ok (.aload_n 0, 1) := by decide +kernel
theorem d_K_applyLook_13 : decode b_K_applyLook 13 = .ok (.getfield 16, 3) := by decide +kernel
theorem d_K_applyLook_16 : decode b_K_applyLook 16 = .ok (.iload_n 1, 1) := by decide +kernel
theorem d_K_applyLook_17 : decode b_K_applyLook 17 = .ok (.aaload, 1) := by decide +kernel
theorem d_K_applyLook_18 : decode b_K_applyLook 18 = .ok (.iload 5, 2) := by decide +kernel
theorem d_K_applyLook_20 : decode b_K_applyLook 20 = .ok (.iaload, 1) := by decide +kernel
theorem d_K_applyLook_21 : decode b_K_applyLook 21 = .ok (.istore 6, 2) := by decide +kernel
theorem d_K_applyLook_23 : decode b_K_applyLook 23 = .ok (.aload_n 0, 1) := by decide +kernel
theorem d_K_applyLook_24 : decode b_K_applyLook 24 = .ok (.getfield 36, 3) := by decide +kernel
theorem d_K_applyLook_27 : decode b_K_applyLook 27 = .ok (.iload 5, 2) := by decide +kernel
theorem d_K_applyLook_29 : decode b_K_applyLook 29 = .ok (.aload_n 0, 1) := by decide +kernel
theorem d_K_applyLook_30 : decode b_K_applyLook 30 = .ok (.getfield 32, 3) := by decide +kernel
theorem d_K_applyLook_33 : decode b_K_applyLook 33 = .ok (.iload 5, 2) := by decide +kernel
theorem d_K_applyLook_35 : decode b_K_applyLook 35 = .ok (.laload, 1) := by decide +kernel
theorem d_K_applyLook_36 : decode b_K_applyLook 36 = .ok (.iload_n 2, 1) := by decide +kernel
theorem d_K_applyLook_37 : decode b_K_applyLook 37 = .ok (.iconst 1, 1) := by decide +kernel
theorem d_K_applyLook_38 : decode b_K_applyLook 38 = .ok (.if_icmp .ne 8, 3) := by decide +kernel
theorem d_K_applyLook_41 : decode b_K_applyLook 41 = .ok (.iload 6, 2) := by decide +kernel
theorem d_K_applyLook_43 : decode b_K_applyLook 43 = .ok (.goto 8, 3) := by decide +kernel
theorem d_K_applyLook_46 : decode b_K_applyLook 46 = .ok (.bipush 9, 2) := by decide +kernel
theorem d_K_applyLook_48 : decode b_K_applyLook 48 = .ok (.iload 6, 2) := by decide +kernel
theorem d_K_applyLook_50 : decode b_K_applyLook 50 = .ok (.isub, 1) := by decide +kernel
theorem d_K_applyLook_51 : decode b_K_applyLook 51 = .ok (.i2l, 1) := by decide +kernel
theorem d_K_applyLook_52 : decode b_K_applyLook 52 = .ok (.lmul, 1) := by decide +kernel
theorem d_K_applyLook_53 : decode b_K_applyLook 53 = .ok (.lastore, 1) := by decide +kernel
theorem d_K_applyLook_54 : decode b_K_applyLook 54 = .ok (.lload_n 3, 1) := by decide +kernel
theorem d_K_applyLook_55 : decode b_K_applyLook 55 = .ok (.aload_n 0, 1) := by decide +kernel
theorem d_K_applyLook_56 : decode b_K_applyLook 56 = .ok (.getfield 36, 3) := by decide +kernel
theorem d_K_applyLook_59 : decode b_K_applyLook 59 = .ok (.iload 5, 2) := by decide +kernel
theorem d_K_applyLook_61 : decode b_K_applyLook 61 = .ok (.laload, 1) := by decide +kernel
theorem d_K_applyLook_62 : decode b_K_applyLook 62 = .ok (.invokestatic 48, 3) := by decide +kernel
theorem d_K_applyLook_65 : decode b_K_applyLook 65 = .ok (.lstore_n 3, 1) := by decide +kernel
theorem d_K_applyLook_66 : decode b_K_applyLook 66 = .ok (.iinc 5 1, 3) := by decide +kernel
theorem d_K_applyLook_69 : decode b_K_applyLook 69 = .ok (.goto (-64), 3) := by decide +kernel
theorem d_K_applyLook_72 : decode b_K_applyLook 72 = .ok (.lload_n 3, 1) := by decide +kernel
theorem d_K_applyLook_73 : decode b_K_applyLook 73 = .ok (.lconst 0, 1) := by decide +kernel
theorem d_K_applyLook_74 : decode b_K_applyLook 74 = .ok (.lcmp, 1) := by decide +kernel
theorem d_K_applyLook_75 : decode b_K_applyLook 75 = .ok (.ifCond .ne 5, 3) := by decide +kernel
theorem d_K_applyLook_78 : decode b_K_applyLook 78 = .ok (.iconst 0, 1) := by decide +kernel
theorem d_K_applyLook_79 : decode b_K_applyLook 79 = .ok (.ireturn, 1) := by decide +kernel
theorem d_K_applyLook_80 : decode b_K_applyLook 80 = .ok (.iconst 0, 1) := by decide +kernel
theorem d_K_applyLook_81 : decode b_K_applyLook 81 = .ok (.istore 5, 2) := by decide +kernel
theorem d_K_applyLook_83 : decode b_K_applyLook 83 = .ok (.iload 5, 2) := by decide +kernel
theorem d_K_applyLook_85 : decode b_K_applyLook 85 = .ok (.bipush 11, 2) := by decide +kernel
theorem d_K_applyLook_87 : decode b_K_applyLook 87 = .ok (.if_icmp .ge 25, 3) := by decide +kernel
theorem d_K_applyLook_90 : decode b_K_applyLook 90 = .ok (.aload_n 0, 1) := by decide +kernel
theorem d_K_applyLook_91 : decode b_K_applyLook 91 = .ok (.getfield 32, 3) := by decide +kernel
theorem d_K_applyLook_94 : decode b_K_applyLook 94 = .ok (.iload 5, 2) := by decide +kernel
theorem d_K_applyLook_96 : decode b_K_applyLook 96 = .ok (.aload_n 0, 1) := by decide +kernel
theorem d_K_applyLook_97 : decode b_K_applyLook 97 = .ok (.getfield 36, 3) := by decide +kernel
theorem d_K_applyLook_100 : decode b_K_applyLook 100 = .ok (.iload 5, 2) := by decide +kernel
theorem d_K_applyLook_102 : decode b_K_applyLook 102 = .ok (.laload, 1) := by decide +kernel
theorem d_K_applyLook_103 : decode b_K_applyLook 103 = .ok (.lload_n 3, 1) := by decide +kernel
theorem d_K_applyLook_104 : decode b_K_applyLook 104 = .ok (.ldiv, 1) := by decide +kernel
theorem d_K_applyLook_105 : decode b_K_applyLook 105 = .ok (.lastore, 1) := by decide +kernel
theorem d_K_applyLook_106 : decode b_K_applyLook 106 = .ok (.iinc 5 1, 3) := by decide +kernel
theorem d_K_applyLook_109 : decode b_K_applyLook 109 = .ok (.goto (-26), 3) := by decide +kernel
theorem d_K_applyLook_112 : decode b_K_applyLook 112 = .ok (.iconst 1, 1) := by decide +kernel
theorem d_K_applyLook_113 : decode b_K_applyLook 113 = .ok (.ireturn, 1) := by decide +kernel
abbrev b_Q_common : ByteArray := prog_3_method_6_code
abbrev y_Q_common : MethodName := ⟨"OldBeams$Fraction", "common", "(JJ)J"⟩
theorem d_Q_common_0 : decode b_Q_common 0 = .ok (.lload_n 0, 1) := by decide +kernel
theorem d_Q_common_1 : decode b_Q_common 1 = .ok (.lstore 4, 2) := by decide +kernel
theorem d_Q_common_3 : decode b_Q_common 3 = .ok (.lload_n 2, 1) := by decide +kernel
theorem d_Q_common_4 : decode b_Q_common 4 = .ok (.lstore 6, 2) := by decide +kernel
theorem d_Q_common_6 : decode b_Q_common 6 = .ok (.iconst 0, 1) := by decide +kernel
theorem d_Q_common_7 : decode b_Q_common 7 = .ok (.istore 8, 2) := by decide +kernel
theorem d_Q_common_9 : decode b_Q_common 9 = .ok (.iload 8, 2) := by decide +kernel
theorem d_Q_common_11 : decode b_Q_common 11 = .ok (.sipush 200, 3) := by decide +kernel
theorem d_Q_common_14 : decode b_Q_common 14 = .ok (.if_icmp .ge 31, 3) := by decide +kernel
theorem d_Q_common_17 : decode b_Q_common 17 = .ok (.lload 6, 2) := by decide +kernel
theorem d_Q_common_19 : decode b_Q_common 19 = .ok (.lconst 0, 1) := by decide +kernel
theorem d_Q_common_20 : decode b_Q_common 20 = .ok (.lcmp, 1) := by decide +kernel
theorem d_Q_common_21 : decode b_Q_common 21 = .ok (.ifCond .eq 24, 3) := by decide +kernel
theorem d_Q_common_24 : decode b_Q_common 24 = .ok (.lload 4, 2) := by decide +kernel
theorem d_Q_common_26 : decode b_Q_common 26 = .ok (.lload 6, 2) := by decide +kernel
theorem d_Q_common_28 : decode b_Q_common 28 = .ok (.lrem, 1) := by decide +kernel
theorem d_Q_common_29 : decode b_Q_common 29 = .ok (.lstore 9, 2) := by decide +kernel
theorem d_Q_common_31 : decode b_Q_common 31 = .ok (.lload 6, 2) := by decide +kernel
theorem d_Q_common_33 : decode b_Q_common 33 = .ok (.lstore 4, 2) := by decide +kernel
theorem d_Q_common_35 : decode b_Q_common 35 = .ok (.lload 9, 2) := by decide +kernel
theorem d_Q_common_37 : decode b_Q_common 37 = .ok (.lstore 6, 2) := by decide +kernel
theorem d_Q_common_39 : decode b_Q_common 39 = .ok (.iinc 8 1, 3) := by decide +kernel
theorem d_Q_common_42 : decode b_Q_common 42 = .ok (.goto (-33), 3) := by decide +kernel
theorem d_Q_common_45 : decode b_Q_common 45 = .ok (.lload 4, 2) := by decide +kernel
theorem d_Q_common_47 : decode b_Q_common 47 = .ok (.lreturn, 1) := by decide +kernel
abbrev b_K_knownShare : ByteArray := prog_5_method_10_code
abbrev y_K_knownShare : MethodName := ⟨"OldBeams$Looks", "knownShare", "(IIZ)I"⟩
theorem d_K_knownShare_0 : decode b_K_knownShare 0 = .ok (.aload_n 0, 1) := by decide +kernel
theorem d_K_knownShare_1 : decode b_K_knownShare 1 = .ok (.iload_n 1, 1) := by decide +kernel
theorem d_K_knownShare_2 : decode b_K_knownShare 2 = .ok (.iload_n 2, 1) := by decide +kernel
theorem d_K_knownShare_3 : decode b_K_knownShare 3 = .ok (.invokevirtual 54, 3) := by decide +kernel
theorem d_K_knownShare_6 : decode b_K_knownShare 6 = .ok (.pop, 1) := by decide +kernel
theorem d_K_knownShare_7 : decode b_K_knownShare 7 = .ok (.iconst 0, 1) := by decide +kernel
theorem d_K_knownShare_8 : decode b_K_knownShare 8 = .ok (.istore 4, 2) := by decide +kernel
theorem d_K_knownShare_10 : decode b_K_knownShare 10 = .ok (.bipush 10, 2) := by decide +kernel
theorem d_K_knownShare_12 : decode b_K_knownShare 12 = .ok (.istore 5, 2) := by decide +kernel
theorem d_K_knownShare_14 : decode b_K_knownShare 14 = .ok (.iload 5, 2) := by decide +kernel
theorem d_K_knownShare_16 : decode b_K_knownShare 16 = .ok (.ifCond .lt 35, 3) := by decide +kernel
theorem d_K_knownShare_19 : decode b_K_knownShare 19 = .ok (.aload_n 0, 1) := by decide +kernel
theorem d_K_knownShare_20 : decode b_K_knownShare 20 = .ok (.getfield 32, 3) := by decide +kernel
theorem d_K_knownShare_23 : decode b_K_knownShare 23 = .ok (.iload 5, 2) := by decide +kernel
theorem d_K_knownShare_25 : decode b_K_knownShare 25 = .ok (.laload, 1) := by decide +kernel
theorem d_K_knownShare_26 : decode b_K_knownShare 26 = .ok (.lconst 0, 1) := by decide +kernel
theorem d_K_knownShare_27 : decode b_K_knownShare 27 = .ok (.lcmp, 1) := by decide +kernel
theorem d_K_knownShare_28 : decode b_K_knownShare 28 = .ok (.ifCond .ne 6, 3) := by decide +kernel
theorem d_K_knownShare_31 : decode b_K_knownShare 31 = .ok (.goto 14, 3) := by decide +kernel
theorem d_K_knownShare_34 : decode b_K_knownShare 34 = .ok (.iload 5, 2) := by decide +kernel
theorem d_K_knownShare_36 : decode b_K_knownShare 36 = .ok (.istore 4, 2) := by decide +kernel
theorem d_K_knownShare_38 : decode b_K_knownShare 38 = .ok (.iload_n 3, 1) := by decide +kernel
theorem d_K_knownShare_39 : decode b_K_knownShare 39 = .ok (.ifCond .eq 6, 3) := by decide +kernel
theorem d_K_knownShare_42 : decode b_K_knownShare 42 = .ok (.goto 9, 3) := by decide +kernel
theorem d_K_knownShare_45 : decode b_K_knownShare 45 = .ok (.iinc 5 (-1), 3) := by decide +kernel
theorem d_K_knownShare_48 : decode b_K_knownShare 48 = .ok (.goto (-34), 3) := by decide +kernel
theorem d_K_knownShare_51 : decode b_K_knownShare 51 = .ok (.iload 4, 2) := by decide +kernel
theorem d_K_knownShare_53 : decode b_K_knownShare 53 = .ok (.ireturn, 1) := by decide +kernel
abbrev b_F_shareLeft : ByteArray := prog_4_method_19_code
abbrev y_F_shareLeft : MethodName := ⟨"OldBeams$Frame", "shareLeft", "(III)I"⟩
theorem d_F_shareLeft_0 : decode b_F_shareLeft 0 = .ok (.aload_n 0, 1) := by decide +kernel
theorem d_F_shareLeft_1 : decode b_F_shareLeft 1 = .ok (.getfield 18, 3) := by decide +kernel
theorem d_F_shareLeft_4 : decode b_F_shareLeft 4 = .ok (.iload_n 1, 1) := by decide +kernel
theorem d_F_shareLeft_5 : decode b_F_shareLeft 5 = .ok (.aaload, 1) := by decide +kernel
theorem d_F_shareLeft_6 : decode b_F_shareLeft 6 = .ok (.astore 4, 2) := by decide +kernel
theorem d_F_shareLeft_8 : decode b_F_shareLeft 8 = .ok (.aload_n 0, 1) := by decide +kernel
theorem d_F_shareLeft_9 : decode b_F_shareLeft 9 = .ok (.getfield 11, 3) := by decide +kernel
theorem d_F_shareLeft_12 : decode b_F_shareLeft 12 = .ok (.aload 4, 2) := by decide +kernel
theorem d_F_shareLeft_14 : decode b_F_shareLeft 14 = .ok (.getfield 129, 3) := by decide +kernel
theorem d_F_shareLeft_17 : decode b_F_shareLeft 17 = .ok (.aaload, 1) := by decide +kernel
theorem d_F_shareLeft_18 : decode b_F_shareLeft 18 = .ok (.aload 4, 2) := by decide +kernel
theorem d_F_shareLeft_20 : decode b_F_shareLeft 20 = .ok (.getfield 149, 3) := by decide +kernel
theorem d_F_shareLeft_23 : decode b_F_shareLeft 23 = .ok (.ifCond .eq 7, 3) := by decide +kernel
theorem d_F_shareLeft_26 : decode b_F_shareLeft 26 = .ok (.iconst 2, 1) := by decide +kernel
theorem d_F_shareLeft_27 : decode b_F_shareLeft 27 = .ok (.goto 4, 3) := by decide +kernel
theorem d_F_shareLeft_30 : decode b_F_shareLeft 30 = .ok (.iconst 1, 1) := by decide +kernel
theorem d_F_shareLeft_31 : decode b_F_shareLeft 31 = .ok (.iaload, 1) := by decide +kernel
theorem d_F_shareLeft_32 : decode b_F_shareLeft 32 = .ok (.istore 5, 2) := by decide +kernel
theorem d_F_shareLeft_34 : decode b_F_shareLeft 34 = .ok (.iconst 0, 1) := by decide +kernel
theorem d_F_shareLeft_35 : decode b_F_shareLeft 35 = .ok (.iload_n 2, 1) := by decide +kernel
theorem d_F_shareLeft_36 : decode b_F_shareLeft 36 = .ok (.iload_n 3, 1) := by decide +kernel
theorem d_F_shareLeft_37 : decode b_F_shareLeft 37 = .ok (.iload 5, 2) := by decide +kernel
theorem d_F_shareLeft_39 : decode b_F_shareLeft 39 = .ok (.imul, 1) := by decide +kernel
theorem d_F_shareLeft_40 : decode b_F_shareLeft 40 = .ok (.bipush 10, 2) := by decide +kernel
theorem d_F_shareLeft_42 : decode b_F_shareLeft 42 = .ok (.idiv, 1) := by decide +kernel
theorem d_F_shareLeft_43 : decode b_F_shareLeft 43 = .ok (.isub, 1) := by decide +kernel
theorem d_F_shareLeft_44 : decode b_F_shareLeft 44 = .ok (.invokestatic 153, 3) := by decide +kernel
theorem d_F_shareLeft_47 : decode b_F_shareLeft 47 = .ok (.ireturn, 1) := by decide +kernel
abbrev b_Ma_max : ByteArray := prog_9_method_65_code
abbrev y_Ma_max : MethodName := ⟨"java/lang/Math", "max", "(II)I"⟩
theorem d_Ma_max_0 : decode b_Ma_max 0 = .ok (.iload_n 0, 1) := by decide +kernel
theorem d_Ma_max_1 : decode b_Ma_max 1 = .ok (.iload_n 1, 1) := by decide +kernel
theorem d_Ma_max_2 : decode b_Ma_max 2 = .ok (.if_icmp .lt 7, 3) := by decide +kernel
theorem d_Ma_max_5 : decode b_Ma_max 5 = .ok (.iload_n 0, 1) := by decide +kernel
theorem d_Ma_max_6 : decode b_Ma_max 6 = .ok (.goto 4, 3) := by decide +kernel
theorem d_Ma_max_9 : decode b_Ma_max 9 = .ok (.iload_n 1, 1) := by decide +kernel
theorem d_Ma_max_10 : decode b_Ma_max 10 = .ok (.ireturn, 1) := by decide +kernel
abbrev b_K_allOdds : ByteArray := prog_5_method_9_code
abbrev y_K_allOdds : MethodName := ⟨"OldBeams$Looks", "allOdds", "()J"⟩
theorem d_K_allOdds_0 : decode b_K_allOdds 0 = .ok (.lconst 0, 1) := by decide +kernel
theorem d_K_allOdds_1 : decode b_K_allOdds 1 = .ok (.lstore_n 1, 1) := by decide +kernel
theorem d_K_allOdds_2 : decode b_K_allOdds 2 = .ok (.iconst 0, 1) := by decide +kernel
theorem d_K_allOdds_3 : decode b_K_allOdds 3 = .ok (.istore_n 3, 1) := by decide +kernel
theorem d_K_allOdds_4 : decode b_K_allOdds 4 = .ok (.iload_n 3, 1) := by decide +kernel
theorem d_K_allOdds_5 : decode b_K_allOdds 5 = .ok (.bipush 11, 2) := by decide +kernel
theorem d_K_allOdds_7 : decode b_K_allOdds 7 = .ok (.if_icmp .ge 18, 3) := by decide +kernel
theorem d_K_allOdds_10 : decode b_K_allOdds 10 = .ok (.lload_n 1, 1) := by decide +kernel
theorem d_K_allOdds_11 : decode b_K_allOdds 11 = .ok (.aload_n 0, 1) := by decide +kernel
theorem d_K_allOdds_12 : decode b_K_allOdds 12 = .ok (.getfield 32, 3) := by decide +kernel
theorem d_K_allOdds_15 : decode b_K_allOdds 15 = .ok (.iload_n 3, 1) := by decide +kernel
theorem d_K_allOdds_16 : decode b_K_allOdds 16 = .ok (.laload, 1) := by decide +kernel
theorem d_K_allOdds_17 : decode b_K_allOdds 17 = .ok (.ladd, 1) := by decide +kernel
theorem d_K_allOdds_18 : decode b_K_allOdds 18 = .ok (.lstore_n 1, 1) := by decide +kernel
theorem d_K_allOdds_19 : decode b_K_allOdds 19 = .ok (.iinc 3 1, 3) := by decide +kernel
theorem d_K_allOdds_22 : decode b_K_allOdds 22 = .ok (.goto (-18), 3) := by decide +kernel
theorem d_K_allOdds_25 : decode b_K_allOdds 25 = .ok (.lload_n 1, 1) := by decide +kernel
theorem d_K_allOdds_26 : decode b_K_allOdds 26 = .ok (.lreturn, 1) := by decide +kernel
abbrev b_Q_put : ByteArray := prog_3_method_2_code
abbrev y_Q_put : MethodName := ⟨"OldBeams$Fraction", "put", "(JJ)V"⟩
theorem d_Q_put_0 : decode b_Q_put 0 = .ok (.lload_n 1, 1) := by decide +kernel
theorem d_Q_put_1 : decode b_Q_put 1 = .ok (.lload_n 3, 1) := by decide +kernel
theorem d_Q_put_2 : decode b_Q_put 2 = .ok (.invokestatic 16, 3) := by decide +kernel
theorem d_Q_put_5 : decode b_Q_put 5 = .ok (.lstore 5, 2) := by decide +kernel
theorem d_Q_put_7 : decode b_Q_put 7 = .ok (.aload_n 0, 1) := by decide +kernel
theorem d_Q_put_8 : decode b_Q_put 8 = .ok (.lload 5, 2) := by decide +kernel
theorem d_Q_put_10 : decode b_Q_put 10 = .ok (.lconst 0, 1) := by decide +kernel
theorem d_Q_put_11 : decode b_Q_put 11 = .ok (.lcmp, 1) := by decide +kernel
theorem d_Q_put_12 : decode b_Q_put 12 = .ok (.ifCond .ne 7, 3) := by decide +kernel
theorem d_Q_put_15 : decode b_Q_put 15 = .ok (.lconst 0, 1) := by decide +kernel
theorem d_Q_put_16 : decode b_Q_put 16 = .ok (.goto 7, 3) := by decide +kernel
theorem d_Q_put_19 : decode b_Q_put 19 = .ok (.lload_n 1, 1) := by decide +kernel
theorem d_Q_put_20 : decode b_Q_put 20 = .ok (.lload 5, 2) := by decide +kernel
theorem d_Q_put_22 : decode b_Q_put 22 = .ok (.ldiv, 1) := by decide +kernel
theorem d_Q_put_23 : decode b_Q_put 23 = .ok (.putfield 7, 3) := by decide +kernel
theorem d_Q_put_26 : decode b_Q_put 26 = .ok (.aload_n 0, 1) := by decide +kernel
theorem d_Q_put_27 : decode b_Q_put 27 = .ok (.lload 5, 2) := by decide +kernel
theorem d_Q_put_29 : decode b_Q_put 29 = .ok (.lconst 0, 1) := by decide +kernel
theorem d_Q_put_30 : decode b_Q_put 30 = .ok (.lcmp, 1) := by decide +kernel
theorem d_Q_put_31 : decode b_Q_put 31 = .ok (.ifCond .ne 7, 3) := by decide +kernel
theorem d_Q_put_34 : decode b_Q_put 34 = .ok (.lconst 1, 1) := by decide +kernel
theorem d_Q_put_35 : decode b_Q_put 35 = .ok (.goto 7, 3) := by decide +kernel
theorem d_Q_put_38 : decode b_Q_put 38 = .ok (.lload_n 3, 1) := by decide +kernel
theorem d_Q_put_39 : decode b_Q_put 39 = .ok (.lload 5, 2) := by decide +kernel
theorem d_Q_put_41 : decode b_Q_put 41 = .ok (.ldiv, 1) := by decide +kernel
theorem d_Q_put_42 : decode b_Q_put 42 = .ok (.putfield 13, 3) := by decide +kernel
theorem d_Q_put_45 : decode b_Q_put 45 = .ok (.return_, 1) := by decide +kernel
abbrev b_Q_part : ByteArray := prog_3_method_4_code
abbrev y_Q_part : MethodName := ⟨"OldBeams$Fraction", "part", "(Z)J"⟩
theorem d_Q_part_0 : decode b_Q_part 0 = .ok (.iload_n 1, 1) := by decide +kernel
theorem d_Q_part_1 : decode b_Q_part 1 = .ok (.ifCond .eq 10, 3) := by decide +kernel
theorem d_Q_part_4 : decode b_Q_part 4 = .ok (.aload_n 0, 1) := by decide +kernel
theorem d_Q_part_5 : decode b_Q_part 5 = .ok (.getfield 7, 3) := by decide +kernel
theorem d_Q_part_8 : decode b_Q_part 8 = .ok (.goto 7, 3) := by decide +kernel
theorem d_Q_part_11 : decode b_Q_part 11 = .ok (.aload_n 0, 1) := by decide +kernel
theorem d_Q_part_12 : decode b_Q_part 12 = .ok (.getfield 13, 3) := by decide +kernel
theorem d_Q_part_15 : decode b_Q_part 15 = .ok (.lreturn, 1) := by decide +kernel
abbrev b_Q_isLessThan : ByteArray := prog_3_method_5_code
abbrev y_Q_isLessThan : MethodName := ⟨"OldBeams$Fraction", "isLessThan", "(LOldBeams$Fraction;)Z"⟩
theorem d_Q_isLessThan_0 : decode b_Q_isLessThan 0 = .ok (.aload_n 0, 1) := by decide +kernel
theorem d_Q_isLessThan_1 : decode b_Q_isLessThan 1 = .ok (.getfield 7, 3) := by decide +kernel
theorem d_Q_isLessThan_4 : decode b_Q_isLessThan 4 = .ok (.lstore_n 2, 1) := by decide +kernel
theorem d_Q_isLessThan_5 : decode b_Q_isLessThan 5 = .ok (.aload_n 0, 1) := by decide +kernel
theorem d_Q_isLessThan_6 : decode b_Q_isLessThan 6 = .ok (.getfield 13, 3) := by decide +kernel
theorem d_Q_isLessThan_9 : decode b_Q_isLessThan 9 = .ok (.lstore 4, 2) := by decide +kernel
theorem d_Q_isLessThan_11 : decode b_Q_isLessThan 11 = .ok (.aload_n 1, 1) := by decide +kernel
theorem d_Q_isLessThan_12 : decode b_Q_isLessThan 12 = .ok (.getfield 7, 3) := by decide +kernel
theorem d_Q_isLessThan_15 : decode b_Q_isLessThan 15 = .ok (.lstore 6, 2) := by decide +kernel
theorem d_Q_isLessThan_17 : decode b_Q_isLessThan 17 = .ok (.aload_n 1, 1) := by decide +kernel
theorem d_Q_isLessThan_18 : decode b_Q_isLessThan 18 = .ok (.getfield 13, 3) := by decide +kernel
theorem d_Q_isLessThan_21 : decode b_Q_isLessThan 21 = .ok (.lstore 8, 2) := by decide +kernel
theorem d_Q_isLessThan_23 : decode b_Q_isLessThan 23 = .ok (.iconst 0, 1) := by decide +kernel
theorem d_Q_isLessThan_24 : decode b_Q_isLessThan 24 = .ok (.istore 10, 2) := by decide +kernel
theorem d_Q_isLessThan_26 : decode b_Q_isLessThan 26 = .ok (.iload 10, 2) := by decide +kernel
theorem d_Q_isLessThan_28 : decode b_Q_isLessThan 28 = .ok (.sipush 200, 3) := by decide +kernel
theorem d_Q_isLessThan_31 : decode b_Q_isLessThan 31 = .ok (.if_icmp .ge 173, 3) := by decide +kernel
theorem d_Q_isLessThan_34 : decode b_Q_isLessThan 34 = .ok (.lload 4, 2) := by decide +kernel
theorem d_Q_isLessThan_36 : decode b_Q_isLessThan 36 = .ok (.lconst 0, 1) := by decide +kernel
theorem d_Q_isLessThan_37 : decode b_Q_isLessThan 37 = .ok (.lcmp, 1) := by decide +kernel
theorem d_Q_isLessThan_38 : decode b_Q_isLessThan 38 = .ok (.ifCond .le 166, 3) := by decide +kernel
theorem d_Q_isLessThan_41 : decode b_Q_isLessThan 41 = .ok (.lload 8, 2) := by decide +kernel
theorem d_Q_isLessThan_43 : decode b_Q_isLessThan 43 = .ok (.lconst 0, 1) := by decide +kernel
theorem d_Q_isLessThan_44 : decode b_Q_isLessThan 44 = .ok (.lcmp, 1) := by decide +kernel
theorem d_Q_isLessThan_45 : decode b_Q_isLessThan 45 = .ok (.ifCond .le 159, 3) := by decide +kernel
theorem d_Q_isLessThan_48 : decode b_Q_isLessThan 48 = .ok (.iload 10, 2) := by decide +kernel
theorem d_Q_isLessThan_50 : decode b_Q_isLessThan 50 = .ok (.iconst 2, 1) := by decide +kernel
theorem d_Q_isLessThan_51 : decode b_Q_isLessThan 51 = .ok (.irem, 1) := by decide +kernel
theorem d_Q_isLessThan_52 : decode b_Q_isLessThan 52 = .ok (.iconst 1, 1) := by decide +kernel
theorem d_Q_isLessThan_53 : decode b_Q_isLessThan 53 = .ok (.if_icmp .ne 7, 3) := by decide +kernel
theorem d_Q_isLessThan_56 : decode b_Q_isLessThan 56 = .ok (.iconst 1, 1) := by decide +kernel
theorem d_Q_isLessThan_57 : decode b_Q_isLessThan 57 = .ok (.goto 4, 3) := by decide +kernel
theorem d_Q_isLessThan_60 : decode b_Q_isLessThan 60 = .ok (.iconst 0, 1) := by decide +kernel
theorem d_Q_isLessThan_61 : decode b_Q_isLessThan 61 = .ok (.istore 11, 2) := by decide +kernel
theorem d_Q_isLessThan_63 : decode b_Q_isLessThan 63 = .ok (.lload_n 2, 1) := by decide +kernel
theorem d_Q_isLessThan_64 : decode b_Q_isLessThan 64 = .ok (.lload 4, 2) := by decide +kernel
theorem d_Q_isLessThan_66 : decode b_Q_isLessThan 66 = .ok (.ldiv, 1) := by decide +kernel
theorem d_Q_isLessThan_67 : decode b_Q_isLessThan 67 = .ok (.lload 6, 2) := by decide +kernel
theorem d_Q_isLessThan_69 : decode b_Q_isLessThan 69 = .ok (.lload 8, 2) := by decide +kernel
theorem d_Q_isLessThan_71 : decode b_Q_isLessThan 71 = .ok (.ldiv, 1) := by decide +kernel
theorem d_Q_isLessThan_72 : decode b_Q_isLessThan 72 = .ok (.lcmp, 1) := by decide +kernel
theorem d_Q_isLessThan_73 : decode b_Q_isLessThan 73 = .ok (.ifCond .eq 48, 3) := by decide +kernel
theorem d_Q_isLessThan_76 : decode b_Q_isLessThan 76 = .ok (.iload 11, 2) := by decide +kernel
theorem d_Q_isLessThan_78 : decode b_Q_isLessThan 78 = .ok (.ifCond .eq 24, 3) := by decide +kernel
theorem d_Q_isLessThan_81 : decode b_Q_isLessThan 81 = .ok (.lload_n 2, 1) := by decide +kernel
theorem d_Q_isLessThan_82 : decode b_Q_isLessThan 82 = .ok (.lload 4, 2) := by decide +kernel
theorem d_Q_isLessThan_84 : decode b_Q_isLessThan 84 = .ok (.ldiv, 1) := by decide +kernel
theorem d_Q_isLessThan_85 : decode b_Q_isLessThan 85 = .ok (.lload 6, 2) := by decide +kernel
theorem d_Q_isLessThan_87 : decode b_Q_isLessThan 87 = .ok (.lload 8, 2) := by decide +kernel
theorem d_Q_isLessThan_89 : decode b_Q_isLessThan 89 = .ok (.ldiv, 1) := by decide +kernel
theorem d_Q_isLessThan_90 : decode b_Q_isLessThan 90 = .ok (.lcmp, 1) := by decide +kernel
theorem d_Q_isLessThan_91 : decode b_Q_isLessThan 91 = .ok (.ifCond .le 7, 3) := by decide +kernel
theorem d_Q_isLessThan_94 : decode b_Q_isLessThan 94 = .ok (.iconst 1, 1) := by decide +kernel
theorem d_Q_isLessThan_95 : decode b_Q_isLessThan 95 = .ok (.goto 25, 3) := by decide +kernel
theorem d_Q_isLessThan_98 : decode b_Q_isLessThan 98 = .ok (.iconst 0, 1) := by decide +kernel
theorem d_Q_isLessThan_99 : decode b_Q_isLessThan 99 = .ok (.goto 21, 3) := by decide +kernel
theorem d_Q_isLessThan_102 : decode b_Q_isLessThan 102 = .ok (.lload_n 2, 1) := by decide +kernel
theorem d_Q_isLessThan_103 : decode b_Q_isLessThan 103 = .ok (.lload 4, 2) := by decide +kernel
theorem d_Q_isLessThan_105 : decode b_Q_isLessThan 105 = .ok (.ldiv, 1) := by decide +kernel
theorem d_Q_isLessThan_106 : decode b_Q_isLessThan 106 = .ok (.lload 6, 2) := by decide +kernel
theorem d_Q_isLessThan_108 : decode b_Q_isLessThan 108 = .ok (.lload 8, 2) := by decide +kernel
theorem d_Q_isLessThan_110 : decode b_Q_isLessThan 110 = .ok (.ldiv, 1) := by decide +kernel
theorem d_Q_isLessThan_111 : decode b_Q_isLessThan 111 = .ok (.lcmp, 1) := by decide +kernel
theorem d_Q_isLessThan_112 : decode b_Q_isLessThan 112 = .ok (.ifCond .ge 7, 3) := by decide +kernel
theorem d_Q_isLessThan_115 : decode b_Q_isLessThan 115 = .ok (.iconst 1, 1) := by decide +kernel
theorem d_Q_isLessThan_116 : decode b_Q_isLessThan 116 = .ok (.goto 4, 3) := by decide +kernel
theorem d_Q_isLessThan_119 : decode b_Q_isLessThan 119 = .ok (.iconst 0, 1) := by decide +kernel
theorem d_Q_isLessThan_120 : decode b_Q_isLessThan 120 = .ok (.ireturn, 1) := by decide +kernel
theorem d_Q_isLessThan_121 : decode b_Q_isLessThan 121 = .ok (.lload_n 2, 1) := by decide +kernel
theorem d_Q_isLessThan_122 : decode b_Q_isLessThan 122 = .ok (.lload 4, 2) := by decide +kernel
theorem d_Q_isLessThan_124 : decode b_Q_isLessThan 124 = .ok (.lrem, 1) := by decide +kernel
theorem d_Q_isLessThan_125 : decode b_Q_isLessThan 125 = .ok (.lstore 12, 2) := by decide +kernel
theorem d_Q_isLessThan_127 : decode b_Q_isLessThan 127 = .ok (.lload 6, 2) := by decide +kernel
theorem d_Q_isLessThan_129 : decode b_Q_isLessThan 129 = .ok (.lload 8, 2) := by decide +kernel
theorem d_Q_isLessThan_131 : decode b_Q_isLessThan 131 = .ok (.lrem, 1) := by decide +kernel
theorem d_Q_isLessThan_132 : decode b_Q_isLessThan 132 = .ok (.lstore 14, 2) := by decide +kernel
theorem d_Q_isLessThan_134 : decode b_Q_isLessThan 134 = .ok (.lload 12, 2) := by decide +kernel
theorem d_Q_isLessThan_136 : decode b_Q_isLessThan 136 = .ok (.lconst 0, 1) := by decide +kernel
theorem d_Q_isLessThan_137 : decode b_Q_isLessThan 137 = .ok (.lcmp, 1) := by decide +kernel
theorem d_Q_isLessThan_138 : decode b_Q_isLessThan 138 = .ok (.ifCond .eq 10, 3) := by decide +kernel
theorem d_Q_isLessThan_141 : decode b_Q_isLessThan 141 = .ok (.lload 14, 2) := by decide +kernel
theorem d_Q_isLessThan_143 : decode b_Q_isLessThan 143 = .ok (.lconst 0, 1) := by decide +kernel
theorem d_Q_isLessThan_144 : decode b_Q_isLessThan 144 = .ok (.lcmp, 1) := by decide +kernel
theorem d_Q_isLessThan_145 : decode b_Q_isLessThan 145 = .ok (.ifCond .ne 38, 3) := by decide +kernel
theorem d_Q_isLessThan_148 : decode b_Q_isLessThan 148 = .ok (.iload 11, 2) := by decide +kernel
theorem d_Q_isLessThan_150 : decode b_Q_isLessThan 150 = .ok (.ifCond .eq 19, 3) := by decide +kernel
theorem d_Q_isLessThan_153 : decode b_Q_isLessThan 153 = .ok (.lload 12, 2) := by decide +kernel
theorem d_Q_isLessThan_155 : decode b_Q_isLessThan 155 = .ok (.lload 14, 2) := by decide +kernel
theorem d_Q_isLessThan_157 : decode b_Q_isLessThan 157 = .ok (.lcmp, 1) := by decide +kernel
theorem d_Q_isLessThan_158 : decode b_Q_isLessThan 158 = .ok (.ifCond .le 7, 3) := by decide +kernel
theorem d_Q_isLessThan_161 : decode b_Q_isLessThan 161 = .ok (.iconst 1, 1) := by decide +kernel
theorem d_Q_isLessThan_162 : decode b_Q_isLessThan 162 = .ok (.goto 20, 3) := by decide +kernel
theorem d_Q_isLessThan_165 : decode b_Q_isLessThan 165 = .ok (.iconst 0, 1) := by decide +kernel
theorem d_Q_isLessThan_166 : decode b_Q_isLessThan 166 = .ok (.goto 16, 3) := by decide +kernel
theorem d_Q_isLessThan_169 : decode b_Q_isLessThan 169 = .ok (.lload 12, 2) := by decide +kernel
theorem d_Q_isLessThan_171 : decode b_Q_isLessThan 171 = .ok (.lload 14, 2) := by decide +kernel
theorem d_Q_isLessThan_173 : decode b_Q_isLessThan 173 = .ok (.lcmp, 1) := by decide +kernel
theorem d_Q_isLessThan_174 : decode b_Q_isLessThan 174 = .ok (.ifCond .ge 7, 3) := by decide +kernel
theorem d_Q_isLessThan_177 : decode b_Q_isLessThan 177 = .ok (.iconst 1, 1) := by decide +kernel
theorem d_Q_isLessThan_178 : decode b_Q_isLessThan 178 = .ok (.goto 4, 3) := by decide +kernel
theorem d_Q_isLessThan_181 : decode b_Q_isLessThan 181 = .ok (.iconst 0, 1) := by decide +kernel
theorem d_Q_isLessThan_182 : decode b_Q_isLessThan 182 = .ok (.ireturn, 1) := by decide +kernel
theorem d_Q_isLessThan_183 : decode b_Q_isLessThan 183 = .ok (.lload 4, 2) := by decide +kernel
theorem d_Q_isLessThan_185 : decode b_Q_isLessThan 185 = .ok (.lstore_n 2, 1) := by decide +kernel
theorem d_Q_isLessThan_186 : decode b_Q_isLessThan 186 = .ok (.lload 12, 2) := by decide +kernel
theorem d_Q_isLessThan_188 : decode b_Q_isLessThan 188 = .ok (.lstore 4, 2) := by decide +kernel
theorem d_Q_isLessThan_190 : decode b_Q_isLessThan 190 = .ok (.lload 8, 2) := by decide +kernel
theorem d_Q_isLessThan_192 : decode b_Q_isLessThan 192 = .ok (.lstore 6, 2) := by decide +kernel
theorem d_Q_isLessThan_194 : decode b_Q_isLessThan 194 = .ok (.lload 14, 2) := by decide +kernel
theorem d_Q_isLessThan_196 : decode b_Q_isLessThan 196 = .ok (.lstore 8, 2) := by decide +kernel
theorem d_Q_isLessThan_198 : decode b_Q_isLessThan 198 = .ok (.iinc 10 1, 3) := by decide +kernel
theorem d_Q_isLessThan_201 : decode b_Q_isLessThan 201 = .ok (.goto (-175), 3) := by decide +kernel
theorem d_Q_isLessThan_204 : decode b_Q_isLessThan 204 = .ok (.iconst 0, 1) := by decide +kernel
theorem d_Q_isLessThan_205 : decode b_Q_isLessThan 205 = .ok (.ireturn, 1) := by decide +kernel
abbrev b_Q_copy : ByteArray := prog_3_method_3_code
abbrev y_Q_copy : MethodName := ⟨"OldBeams$Fraction", "copy", "(LOldBeams$Fraction;)V"⟩
theorem d_Q_copy_0 : decode b_Q_copy 0 = .ok (.aload_n 0, 1) := by decide +kernel
theorem d_Q_copy_1 : decode b_Q_copy 1 = .ok (.aload_n 1, 1) := by decide +kernel
theorem d_Q_copy_2 : decode b_Q_copy 2 = .ok (.getfield 7, 3) := by decide +kernel
theorem d_Q_copy_5 : decode b_Q_copy 5 = .ok (.putfield 7, 3) := by decide +kernel
theorem d_Q_copy_8 : decode b_Q_copy 8 = .ok (.aload_n 0, 1) := by decide +kernel
theorem d_Q_copy_9 : decode b_Q_copy 9 = .ok (.aload_n 1, 1) := by decide +kernel
theorem d_Q_copy_10 : decode b_Q_copy 10 = .ok (.getfield 13, 3) := by decide +kernel
theorem d_Q_copy_13 : decode b_Q_copy 13 = .ok (.putfield 13, 3) := by decide +kernel
theorem d_Q_copy_16 : decode b_Q_copy 16 = .ok (.return_, 1) := by decide +kernel
abbrev b_F_tryFall : ByteArray := prog_4_method_20_code
abbrev y_F_tryFall : MethodName := ⟨"OldBeams$Frame", "tryFall", "(I[I[I)I"⟩
theorem d_F_tryFall_0 : decode b_F_tryFall 0 = .ok (.aload_n 0, 1) := by decide +kernel
theorem d_F_tryFall_1 : decode b_F_tryFall 1 = .ok (.getfield 86, 3) := by decide +kernel
theorem d_F_tryFall_4 : decode b_F_tryFall 4 = .ok (.istore 4, 2) := by decide +kernel
theorem d_F_tryFall_6 : decode b_F_tryFall 6 = .ok (.iload_n 1, 1) := by decide +kernel
theorem d_F_tryFall_7 : decode b_F_tryFall 7 = .ok (.istore 5, 2) := by decide +kernel
theorem d_F_tryFall_9 : decode b_F_tryFall 9 = .ok (.iconst 0, 1) := by decide +kernel
theorem d_F_tryFall_10 : decode b_F_tryFall 10 = .ok (.istore 6, 2) := by decide +kernel
theorem d_F_tryFall_12 : decode b_F_tryFall 12 = .ok (.iload 6, 2) := by decide +kernel
theorem d_F_tryFall_14 : decode b_F_tryFall 14 = .ok (.bipush 12, 2) := by decide +kernel
theorem d_F_tryFall_16 : decode b_F_tryFall 16 = .ok (.if_icmp .ge 52, 3) := by decide +kernel
theorem d_F_tryFall_19 : decode b_F_tryFall 19 = .ok (.iload 5, 2) := by decide +kernel
theorem d_F_tryFall_21 : decode b_F_tryFall 21 = .ok (.ldc 82, 2) := by decide +kernel
theorem d_F_tryFall_23 : decode b_F_tryFall 23 = .ok (.if_icmp .eq 45, 3) := by decide +kernel
theorem d_F_tryFall_26 : decode b_F_tryFall 26 = .ok (.aload_n 3, 1) := by decide +kernel
theorem d_F_tryFall_27 : decode b_F_tryFall 27 = .ok (.iload 6, 2) := by decide +kernel
theorem d_F_tryFall_29 : decode b_F_tryFall 29 = .ok (.iload 5, 2) := by decide +kernel
theorem d_F_tryFall_31 : decode b_F_tryFall 31 = .ok (.iastore, 1) := by decide +kernel
theorem d_F_tryFall_32 : decode b_F_tryFall 32 = .ok (.iinc 6 1, 3) := by decide +kernel
theorem d_F_tryFall_35 : decode b_F_tryFall 35 = .ok (.iload 4, 2) := by decide +kernel
theorem d_F_tryFall_37 : decode b_F_tryFall 37 = .ok (.iconst 1, 1) := by decide +kernel
theorem d_F_tryFall_38 : decode b_F_tryFall 38 = .ok (.iload 5, 2) := by decide +kernel
theorem d_F_tryFall_40 : decode b_F_tryFall 40 = .ok (.ishl, 1) := by decide +kernel
theorem d_F_tryFall_41 : decode b_F_tryFall 41 = .ok (.ior, 1) := by decide +kernel
theorem d_F_tryFall_42 : decode b_F_tryFall 42 = .ok (.istore 4, 2) := by decide +kernel
theorem d_F_tryFall_44 : decode b_F_tryFall 44 = .ok (.aload_n 0, 1) := by decide +kernel
theorem d_F_tryFall_45 : decode b_F_tryFall 45 = .ok (.aload_n 0, 1) := by decide +kernel
theorem d_F_tryFall_46 : decode b_F_tryFall 46 = .ok (.iload 4, 2) := by decide +kernel
theorem d_F_tryFall_48 : decode b_F_tryFall 48 = .ok (.invokevirtual 89, 3) := by decide +kernel
theorem d_F_tryFall_51 : decode b_F_tryFall 51 = .ok (.putfield 159, 3) := by decide +kernel
theorem d_F_tryFall_54 : decode b_F_tryFall 54 = .ok (.aload_n 0, 1) := by decide +kernel
theorem d_F_tryFall_55 : decode b_F_tryFall 55 = .ok (.aload_n 0, 1) := by decide +kernel
theorem d_F_tryFall_56 : decode b_F_tryFall 56 = .ok (.getfield 159, 3) := by decide +kernel
theorem d_F_tryFall_59 : decode b_F_tryFall 59 = .ok (.aload_n 2, 1) := by decide +kernel
theorem d_F_tryFall_60 : decode b_F_tryFall 60 = .ok (.invokevirtual 162, 3) := by decide +kernel
theorem d_F_tryFall_63 : decode b_F_tryFall 63 = .ok (.istore 5, 2) := by decide +kernel
theorem d_F_tryFall_65 : decode b_F_tryFall 65 = .ok (.goto (-53), 3) := by decide +kernel
theorem d_F_tryFall_68 : decode b_F_tryFall 68 = .ok (.iload 6, 2) := by decide +kernel
theorem d_F_tryFall_70 : decode b_F_tryFall 70 = .ok (.ireturn, 1) := by decide +kernel
abbrev b_F_firstNotHolding : ByteArray := prog_4_method_21_code
abbrev y_F_firstNotHolding : MethodName := ⟨"OldBeams$Frame", "firstNotHolding", "(I[I)I"⟩
theorem d_F_firstNotHolding_0 : decode b_F_firstNotHolding 0 = .ok (.aload_n 0, 1) := by decide +kernel
theorem d_F_firstNotHolding_1 : decode b_F_firstNotHolding 1 = .ok (.iload_n 1, 1) := by decide +kernel
theorem d_F_firstNotHolding_2 : decode b_F_firstNotHolding 2 = .ok (.aload_n 0, 1) := by decide +kernel
theorem d_F_firstNotHolding_3 : decode b_F_firstNotHolding 3 = .ok (.getfield 93, 3) := by decide +kernel
theorem d_F_firstNotHolding_6 : decode b_F_firstNotHolding 6 = .ok (.invokevirtual 96, 3) := by decide +kernel
theorem d_F_firstNotHolding_9 : decode b_F_firstNotHolding 9 = .ok (.iconst 0, 1) := by decide +kernel
theorem d_F_firstNotHolding_10 : decode b_F_firstNotHolding 10 = .ok (.istore_n 3, 1) := by decide +kernel
theorem d_F_firstNotHolding_11 : decode b_F_firstNotHolding 11 = .ok (.iload_n 3, 1) := by decide +kernel
theorem d_F_firstNotHolding_12 : decode b_F_firstNotHolding 12 = .ok (.aload_n 0, 1) := by decide +kernel
theorem d_F_firstNotHolding_13 : decode b_F_firstNotHolding 13 = .ok (.getfield 46, 3) := by decide +kernel
theorem d_F_firstNotHolding_16 : decode b_F_firstNotHolding 16 = .ok (.if_icmp .ge 30, 3) := by decide +kernel
theorem d_F_firstNotHolding_19 : decode b_F_firstNotHolding 19 = .ok (.iload_n 1, 1) := by decide +kernel
theorem d_F_firstNotHolding_20 : decode b_F_firstNotHolding 20 = .ok (.iload_n 3, 1) := by decide +kernel
theorem d_F_firstNotHolding_21 : decode b_F_firstNotHolding 21 = .ok (.invokestatic 83, 3) := by decide +kernel
theorem d_F_firstNotHolding_24 : decode b_F_firstNotHolding 24 = .ok (.ifCond .ne 16, 3) := by decide +kernel
theorem d_F_firstNotHolding_27 : decode b_F_firstNotHolding 27 = .ok (.aload_n 0, 1) := by decide +kernel
theorem d_F_firstNotHolding_28 : decode b_F_firstNotHolding 28 = .ok (.iload_n 3, 1) := by decide +kernel
theorem d_F_firstNotHolding_29 : decode b_F_firstNotHolding 29 = .ok (.aload_n 2, 1) := by decide +kernel
theorem d_F_firstNotHolding_30 : decode b_F_firstNotHolding 30 = .ok (.iload_n 3, 1) := by decide +kernel
theorem d_F_firstNotHolding_31 : decode b_F_firstNotHolding 31 = .ok (.iaload, 1) := by decide +kernel
theorem d_F_firstNotHolding_32 : decode b_F_firstNotHolding 32 = .ok (.invokevirtual 166, 3) := by decide +kernel
theorem d_F_firstNotHolding_35 : decode b_F_firstNotHolding 35 = .ok (.ifCond .ne 5, 3) := by decide +kernel
theorem d_F_firstNotHolding_38 : decode b_F_firstNotHolding 38 = .ok (.iload_n 3, 1) := by decide +kernel
theorem d_F_firstNotHolding_39 : decode b_F_firstNotHolding 39 = .ok (.ireturn, 1) := by decide +kernel
theorem d_F_firstNotHolding_40 : decode b_F_firstNotHolding 40 = .ok (.iinc 3 1, 3) := by decide +kernel
theorem d_F_firstNotHolding_43 : decode b_F_firstNotHolding 43 = .ok (.goto (-32), 3) := by decide +kernel
theorem d_F_firstNotHolding_46 : decode b_F_firstNotHolding 46 = .ok (.ldc 82, 2) := by decide +kernel
theorem d_F_firstNotHolding_48 : decode b_F_firstNotHolding 48 = .ok (.ireturn, 1) := by decide +kernel
abbrev b_F_addProp : ByteArray := prog_4_method_8_code
abbrev y_F_addProp : MethodName := ⟨"OldBeams$Frame", "addProp", "(III)I"⟩
theorem d_F_addProp_0 : decode b_F_addProp 0 = .ok (.aload_n 0, 1) := by decide +kernel
theorem d_F_addProp_1 : decode b_F_addProp 1 = .ok (.getfield 72, 3) := by decide +kernel
theorem d_F_addProp_4 : decode b_F_addProp 4 = .ok (.istore 4, 2) := by decide +kernel
theorem d_F_addProp_6 : decode b_F_addProp 6 = .ok (.aload_n 0, 1) := by decide +kernel
theorem d_F_addProp_7 : decode b_F_addProp 7 = .ok (.getfield 36, 3) := by decide +kernel
theorem d_F_addProp_10 : decode b_F_addProp 10 = .ok (.iload 4, 2) := by decide +kernel
theorem d_F_addProp_12 : decode b_F_addProp 12 = .ok (.iload_n 1, 1) := by decide +kernel
theorem d_F_addProp_13 : decode b_F_addProp 13 = .ok (.iastore, 1) := by decide +kernel
theorem d_F_addProp_14 : decode b_F_addProp 14 = .ok (.aload_n 0, 1) := by decide +kernel
theorem d_F_addProp_15 : decode b_F_addProp 15 = .ok (.getfield 39, 3) := by decide +kernel
theorem d_F_addProp_18 : decode b_F_addProp 18 = .ok (.iload 4, 2) := by decide +kernel
theorem d_F_addProp_20 : decode b_F_addProp 20 = .ok (.iload_n 2, 1) := by decide +kernel
theorem d_F_addProp_21 : decode b_F_addProp 21 = .ok (.iastore, 1) := by decide +kernel
theorem d_F_addProp_22 : decode b_F_addProp 22 = .ok (.aload_n 0, 1) := by decide +kernel
theorem d_F_addProp_23 : decode b_F_addProp 23 = .ok (.getfield 42, 3) := by decide +kernel
theorem d_F_addProp_26 : decode b_F_addProp 26 = .ok (.iload 4, 2) := by decide +kernel
theorem d_F_addProp_28 : decode b_F_addProp 28 = .ok (.iload_n 3, 1) := by decide +kernel
theorem d_F_addProp_29 : decode b_F_addProp 29 = .ok (.iastore, 1) := by decide +kernel
theorem d_F_addProp_30 : decode b_F_addProp 30 = .ok (.aload_n 0, 1) := by decide +kernel
theorem d_F_addProp_31 : decode b_F_addProp 31 = .ok (.iload 4, 2) := by decide +kernel
theorem d_F_addProp_33 : decode b_F_addProp 33 = .ok (.iconst 1, 1) := by decide +kernel
theorem d_F_addProp_34 : decode b_F_addProp 34 = .ok (.iadd, 1) := by decide +kernel
theorem d_F_addProp_35 : decode b_F_addProp 35 = .ok (.putfield 72, 3) := by decide +kernel
theorem d_F_addProp_38 : decode b_F_addProp 38 = .ok (.iload 4, 2) := by decide +kernel
theorem d_F_addProp_40 : decode b_F_addProp 40 = .ok (.ireturn, 1) := by decide +kernel
abbrev b_F_fewestProps : ByteArray := prog_4_method_22_code
abbrev y_F_fewestProps : MethodName := ⟨"OldBeams$Frame", "fewestProps", "([I)I"⟩
theorem d_F_fewestProps_0 : decode b_F_fewestProps 0 = .ok (.aload_n 0, 1) := by decide +kernel
theorem d_F_fewestProps_1 : decode b_F_fewestProps 1 = .ok (.aload_n 0, 1) := by decide +kernel
theorem d_F_fewestProps_2 : decode b_F_fewestProps 2 = .ok (.getfield 86, 3) := by decide +kernel
theorem d_F_fewestProps_5 : decode b_F_fewestProps 5 = .ok (.invokevirtual 89, 3) := by decide +kernel
theorem d_F_fewestProps_8 : decode b_F_fewestProps 8 = .ok (.ifCond .eq 6, 3) := by decide +kernel
theorem d_F_fewestProps_11 : decode b_F_fewestProps 11 = .ok (.ldc 82, 2) := by decide +kernel
theorem d_F_fewestProps_13 : decode b_F_fewestProps 13 = .ok (.ireturn, 1) := by decide +kernel
theorem d_F_fewestProps_14 : decode b_F_fewestProps 14 = .ok (.sipush 255, 3) := by decide +kernel
theorem d_F_fewestProps_17 : decode b_F_fewestProps 17 = .ok (.istore_n 2, 1) := by decide +kernel
theorem d_F_fewestProps_18 : decode b_F_fewestProps 18 = .ok (.iload_n 2, 1) := by decide +kernel
theorem d_F_fewestProps_19 : decode b_F_fewestProps 19 = .ok (.aload_n 0, 1) := by decide +kernel
theorem d_F_fewestProps_20 : decode b_F_fewestProps 20 = .ok (.getfield 72, 3) := by decide +kernel
theorem d_F_fewestProps_23 : decode b_F_fewestProps 23 = .ok (.ishr, 1) := by decide +kernel
theorem d_F_fewestProps_24 : decode b_F_fewestProps 24 = .ok (.istore_n 3, 1) := by decide +kernel
theorem d_F_fewestProps_25 : decode b_F_fewestProps 25 = .ok (.iconst 0, 1) := by decide +kernel
theorem d_F_fewestProps_26 : decode b_F_fewestProps 26 = .ok (.istore 4, 2) := by decide +kernel
theorem d_F_fewestProps_28 : decode b_F_fewestProps 28 = .ok (.iload 4, 2) := by decide +kernel
theorem d_F_fewestProps_30 : decode b_F_fewestProps 30 = .ok (.aload_n 0, 1) := by decide +kernel
theorem d_F_fewestProps_31 : decode b_F_fewestProps 31 = .ok (.getfield 72, 3) := by decide +kernel
theorem d_F_fewestProps_34 : decode b_F_fewestProps 34 = .ok (.if_icmp .gt 56, 3) := by decide +kernel
theorem d_F_fewestProps_37 : decode b_F_fewestProps 37 = .ok (.iload_n 2, 1) := by decide +kernel
theorem d_F_fewestProps_38 : decode b_F_fewestProps 38 = .ok (.istore 5, 2) := by decide +kernel
theorem d_F_fewestProps_40 : decode b_F_fewestProps 40 = .ok (.iload 5, 2) := by decide +kernel
theorem d_F_fewestProps_42 : decode b_F_fewestProps 42 = .ok (.ifCond .lt 42, 3) := by decide +kernel
theorem d_F_fewestProps_45 : decode b_F_fewestProps 45 = .ok (.iload 5, 2) := by decide +kernel
theorem d_F_fewestProps_47 : decode b_F_fewestProps 47 = .ok (.invokestatic 169, 3) := by decide +kernel
theorem d_F_fewestProps_50 : decode b_F_fewestProps 50 = .ok (.iload 4, 2) := by decide +kernel
theorem d_F_fewestProps_52 : decode b_F_fewestProps 52 = .ok (.if_icmp .ne 26, 3) := by decide +kernel
theorem d_F_fewestProps_55 : decode b_F_fewestProps 55 = .ok (.iload 5, 2) := by decide +kernel
theorem d_F_fewestProps_57 : decode b_F_fewestProps 57 = .ok (.iload_n 3, 1) := by decide +kernel
theorem d_F_fewestProps_58 : decode b_F_fewestProps 58 = .ok (.iand, 1) := by decide +kernel
theorem d_F_fewestProps_59 : decode b_F_fewestProps 59 = .ok (.ifCond .eq 6, 3) := by decide +kernel
theorem d_F_fewestProps_62 : decode b_F_fewestProps 62 = .ok (.goto 16, 3) := by decide +kernel
theorem d_F_fewestProps_65 : decode b_F_fewestProps 65 = .ok (.aload_n 0, 1) := by decide +kernel
theorem d_F_fewestProps_66 : decode b_F_fewestProps 66 = .ok (.iload 5, 2) := by decide +kernel
theorem d_F_fewestProps_68 : decode b_F_fewestProps 68 = .ok (.aload_n 1, 1) := by decide +kernel
theorem d_F_fewestProps_69 : decode b_F_fewestProps 69 = .ok (.invokevirtual 174, 3) := by decide +kernel
theorem d_F_fewestProps_72 : decode b_F_fewestProps 72 = .ok (.ifCond .eq 6, 3) := by decide +kernel
theorem d_F_fewestProps_75 : decode b_F_fewestProps 75 = .ok (.iload 5, 2) := by decide +kernel
theorem d_F_fewestProps_77 : decode b_F_fewestProps 77 = .ok (.ireturn, 1) := by decide +kernel
theorem d_F_fewestProps_78 : decode b_F_fewestProps 78 = .ok (.iinc 5 (-1), 3) := by decide +kernel
theorem d_F_fewestProps_81 : decode b_F_fewestProps 81 = .ok (.goto (-41), 3) := by decide +kernel
theorem d_F_fewestProps_84 : decode b_F_fewestProps 84 = .ok (.iinc 4 1, 3) := by decide +kernel
theorem d_F_fewestProps_87 : decode b_F_fewestProps 87 = .ok (.goto (-59), 3) := by decide +kernel
theorem d_F_fewestProps_90 : decode b_F_fewestProps 90 = .ok (.ldc 82, 2) := by decide +kernel
theorem d_F_fewestProps_92 : decode b_F_fewestProps 92 = .ok (.ireturn, 1) := by decide +kernel
abbrev b_F_standsWith : ByteArray := prog_4_method_23_code
abbrev y_F_standsWith : MethodName := ⟨"OldBeams$Frame", "standsWith", "(I[I)Z"⟩
theorem d_F_standsWith_0 : decode b_F_standsWith 0 = .ok (.aload_n 0, 1) := by decide +kernel
theorem d_F_standsWith_1 : decode b_F_standsWith 1 = .ok (.iload_n 1, 1) := by decide +kernel
theorem d_F_standsWith_2 : decode b_F_standsWith 2 = .ok (.invokevirtual 100, 3) := by decide +kernel
theorem d_F_standsWith_5 : decode b_F_standsWith 5 = .ok (.aload_n 0, 1) := by decide +kernel
theorem d_F_standsWith_6 : decode b_F_standsWith 6 = .ok (.getfield 46, 3) := by decide +kernel
theorem d_F_standsWith_9 : decode b_F_standsWith 9 = .ok (.iconst 1, 1) := by decide +kernel
theorem d_F_standsWith_10 : decode b_F_standsWith 10 = .ok (.isub, 1) := by decide +kernel
theorem d_F_standsWith_11 : decode b_F_standsWith 11 = .ok (.istore_n 3, 1) := by decide +kernel
theorem d_F_standsWith_12 : decode b_F_standsWith 12 = .ok (.iload_n 3, 1) := by decide +kernel
theorem d_F_standsWith_13 : decode b_F_standsWith 13 = .ok (.ifCond .lt 32, 3) := by decide +kernel
theorem d_F_standsWith_16 : decode b_F_standsWith 16 = .ok (.aload_n 0, 1) := by decide +kernel
theorem d_F_standsWith_17 : decode b_F_standsWith 17 = .ok (.aload_n 0, 1) := by decide +kernel
theorem d_F_standsWith_18 : decode b_F_standsWith 18 = .ok (.getfield 18, 3) := by decide +kernel
theorem d_F_standsWith_21 : decode b_F_standsWith 21 = .ok (.iload_n 3, 1) := by decide +kernel
theorem d_F_standsWith_22 : decode b_F_standsWith 22 = .ok (.aaload, 1) := by decide +kernel
theorem d_F_standsWith_23 : decode b_F_standsWith 23 = .ok (.invokevirtual 104, 3) := by decide +kernel
theorem d_F_standsWith_26 : decode b_F_standsWith 26 = .ok (.aload_n 0, 1) := by decide +kernel
theorem d_F_standsWith_27 : decode b_F_standsWith 27 = .ok (.iload_n 3, 1) := by decide +kernel
theorem d_F_standsWith_28 : decode b_F_standsWith 28 = .ok (.aload_n 2, 1) := by decide +kernel
theorem d_F_standsWith_29 : decode b_F_standsWith 29 = .ok (.iload_n 3, 1) := by decide +kernel
theorem d_F_standsWith_30 : decode b_F_standsWith 30 = .ok (.iaload, 1) := by decide +kernel
theorem d_F_standsWith_31 : decode b_F_standsWith 31 = .ok (.invokevirtual 166, 3) := by decide +kernel
theorem d_F_standsWith_34 : decode b_F_standsWith 34 = .ok (.ifCond .ne 5, 3) := by decide +kernel
theorem d_F_standsWith_37 : decode b_F_standsWith 37 = .ok (.iconst 0, 1) := by decide +kernel
theorem d_F_standsWith_38 : decode b_F_standsWith 38 = .ok (.ireturn, 1) := by decide +kernel
theorem d_F_standsWith_39 : decode b_F_standsWith 39 = .ok (.iinc 3 (-1), 3) := by decide +kernel
theorem d_F_standsWith_42 : decode b_F_standsWith 42 = .ok (.goto (-30), 3) := by decide +kernel
theorem d_F_standsWith_45 : decode b_F_standsWith 45 = .ok (.iconst 1, 1) := by decide +kernel
theorem d_F_standsWith_46 : decode b_F_standsWith 46 = .ok (.ireturn, 1) := by decide +kernel
abbrev b_Ma_min : ByteArray := prog_9_method_70_code
abbrev y_Ma_min : MethodName := ⟨"java/lang/Math", "min", "(JJ)J"⟩
theorem d_Ma_min_0 : decode b_Ma_min 0 = .ok (.lload_n 0, 1) := by decide +kernel
theorem d_Ma_min_1 : decode b_Ma_min 1 = .ok (.lload_n 2, 1) := by decide +kernel
theorem d_Ma_min_2 : decode b_Ma_min 2 = .ok (.lcmp, 1) := by decide +kernel
theorem d_Ma_min_3 : decode b_Ma_min 3 = .ok (.ifCond .gt 7, 3) := by decide +kernel
theorem d_Ma_min_6 : decode b_Ma_min 6 = .ok (.lload_n 0, 1) := by decide +kernel
theorem d_Ma_min_7 : decode b_Ma_min 7 = .ok (.goto 4, 3) := by decide +kernel
theorem d_Ma_min_10 : decode b_Ma_min 10 = .ok (.lload_n 2, 1) := by decide +kernel
theorem d_Ma_min_11 : decode b_Ma_min 11 = .ok (.lreturn, 1) := by decide +kernel
abbrev b_F_loadsOn : ByteArray := prog_4_method_7_code
abbrev y_F_loadsOn : MethodName := ⟨"OldBeams$Frame", "loadsOn", "()I"⟩
theorem d_F_loadsOn_0 : decode b_F_loadsOn 0 = .ok (.iconst 0, 1) := by decide +kernel
theorem d_F_loadsOn_1 : decode b_F_loadsOn 1 = .ok (.istore_n 1, 1) := by decide +kernel
theorem d_F_loadsOn_2 : decode b_F_loadsOn 2 = .ok (.iconst 0, 1) := by decide +kernel
theorem d_F_loadsOn_3 : decode b_F_loadsOn 3 = .ok (.istore_n 2, 1) := by decide +kernel
theorem d_F_loadsOn_4 : decode b_F_loadsOn 4 = .ok (.iload_n 2, 1) := by decide +kernel
theorem d_F_loadsOn_5 : decode b_F_loadsOn 5 = .ok (.aload_n 0, 1) := by decide +kernel
theorem d_F_loadsOn_6 : decode b_F_loadsOn 6 = .ok (.getfield 65, 3) := by decide +kernel
theorem d_F_loadsOn_9 : decode b_F_loadsOn 9 = .ok (.if_icmp .ge 21, 3) := by decide +kernel
theorem d_F_loadsOn_12 : decode b_F_loadsOn 12 = .ok (.aload_n 0, 1) := by decide +kernel
theorem d_F_loadsOn_13 : decode b_F_loadsOn 13 = .ok (.getfield 32, 3) := by decide +kernel
theorem d_F_loadsOn_16 : decode b_F_loadsOn 16 = .ok (.iload_n 2, 1) := by decide +kernel
theorem d_F_loadsOn_17 : decode b_F_loadsOn 17 = .ok (.baload, 1) := by decide +kernel
theorem d_F_loadsOn_18 : decode b_F_loadsOn 18 = .ok (.ifCond .eq 6, 3) := by decide +kernel
theorem d_F_loadsOn_21 : decode b_F_loadsOn 21 = .ok (.iinc 1 1, 3) := by decide +kernel
theorem d_F_loadsOn_24 : decode b_F_loadsOn 24 = .ok (.iinc 2 1, 3) := by decide +kernel
theorem d_F_loadsOn_27 : decode b_F_loadsOn 27 = .ok (.goto (-23), 3) := by decide +kernel
theorem d_F_loadsOn_30 : decode b_F_loadsOn 30 = .ok (.iload_n 1, 1) := by decide +kernel
theorem d_F_loadsOn_31 : decode b_F_loadsOn 31 = .ok (.ireturn, 1) := by decide +kernel
end
section
abbrev b_O_init : ByteArray := prog_1_method_1_code
abbrev y_O_init : MethodName := ⟨"OldBeams", "<init>", "()V"⟩
theorem d_O_init_0 : decode b_O_init 0 = .ok (.aload_n 0, 1) := by decide +kernel
theorem d_O_init_1 : decode b_O_init 1 = .ok (.invokespecial 3, 3) := by decide +kernel
theorem d_O_init_4 : decode b_O_init 4 = .ok (.aload_n 0, 1) := by decide +kernel
theorem d_O_init_5 : decode b_O_init 5 = .ok (.new 9, 3) := by decide +kernel
theorem d_O_init_8 : decode b_O_init 8 = .ok (.dup, 1) := by decide +kernel
theorem d_O_init_9 : decode b_O_init 9 = .ok (.invokespecial 11, 3) := by decide +kernel
theorem d_O_init_12 : decode b_O_init 12 = .ok (.putfield 12, 3) := by decide +kernel
theorem d_O_init_15 : decode b_O_init 15 = .ok (.aload_n 0, 1) := by decide +kernel
theorem d_O_init_16 : decode b_O_init 16 = .ok (.new 16, 3) := by decide +kernel
theorem d_O_init_19 : decode b_O_init 19 = .ok (.dup, 1) := by decide +kernel
theorem d_O_init_20 : decode b_O_init 20 = .ok (.invokespecial 18, 3) := by decide +kernel
theorem d_O_init_23 : decode b_O_init 23 = .ok (.putfield 19, 3) := by decide +kernel
theorem d_O_init_26 : decode b_O_init 26 = .ok (.aload_n 0, 1) := by decide +kernel
theorem d_O_init_27 : decode b_O_init 27 = .ok (.new 23, 3) := by decide +kernel
theorem d_O_init_30 : decode b_O_init 30 = .ok (.dup, 1) := by decide +kernel
theorem d_O_init_31 : decode b_O_init 31 = .ok (.invokespecial 25, 3) := by decide +kernel
theorem d_O_init_34 : decode b_O_init 34 = .ok (.putfield 26, 3) := by decide +kernel
theorem d_O_init_37 : decode b_O_init 37 = .ok (.aload_n 0, 1) := by decide +kernel
theorem d_O_init_38 : decode b_O_init 38 = .ok (.new 23, 3) := by decide +kernel
theorem d_O_init_41 : decode b_O_init 41 = .ok (.dup, 1) := by decide +kernel
theorem d_O_init_42 : decode b_O_init 42 = .ok (.invokespecial 25, 3) := by decide +kernel
theorem d_O_init_45 : decode b_O_init 45 = .ok (.putfield 30, 3) := by decide +kernel
theorem d_O_init_48 : decode b_O_init 48 = .ok (.aload_n 0, 1) := by decide +kernel
theorem d_O_init_49 : decode b_O_init 49 = .ok (.iconst 2, 1) := by decide +kernel
theorem d_O_init_50 : decode b_O_init 50 = .ok (.newarray .int, 2) := by decide +kernel
theorem d_O_init_52 : decode b_O_init 52 = .ok (.dup, 1) := by decide +kernel
theorem d_O_init_53 : decode b_O_init 53 = .ok (.iconst 0, 1) := by decide +kernel
theorem d_O_init_54 : decode b_O_init 54 = .ok (.bipush 100, 2) := by decide +kernel
theorem d_O_init_56 : decode b_O_init 56 = .ok (.iastore, 1) := by decide +kernel
theorem d_O_init_57 : decode b_O_init 57 = .ok (.dup, 1) := by decide +kernel
theorem d_O_init_58 : decode b_O_init 58 = .ok (.iconst 1, 1) := by decide +kernel
theorem d_O_init_59 : decode b_O_init 59 = .ok (.sipush 1000, 3) := by decide +kernel
theorem d_O_init_62 : decode b_O_init 62 = .ok (.iastore, 1) := by decide +kernel
theorem d_O_init_63 : decode b_O_init 63 = .ok (.putfield 33, 3) := by decide +kernel
theorem d_O_init_66 : decode b_O_init 66 = .ok (.aload_n 0, 1) := by decide +kernel
theorem d_O_init_67 : decode b_O_init 67 = .ok (.bipush 12, 2) := by decide +kernel
theorem d_O_init_69 : decode b_O_init 69 = .ok (.newarray .int, 2) := by decide +kernel
theorem d_O_init_71 : decode b_O_init 71 = .ok (.putfield 37, 3) := by decide +kernel
theorem d_O_init_74 : decode b_O_init 74 = .ok (.aload_n 0, 1) := by decide +kernel
theorem d_O_init_75 : decode b_O_init 75 = .ok (.bipush 12, 2) := by decide +kernel
theorem d_O_init_77 : decode b_O_init 77 = .ok (.newarray .int, 2) := by decide +kernel
theorem d_O_init_79 : decode b_O_init 79 = .ok (.putfield 40, 3) := by decide +kernel
theorem d_O_init_82 : decode b_O_init 82 = .ok (.return_, 1) := by decide +kernel
abbrev b_O_kind : ByteArray := prog_1_method_2_code
abbrev y_O_kind : MethodName := ⟨"OldBeams", "kind", "(III)I"⟩
theorem d_O_kind_0 : decode b_O_kind 0 = .ok (.iload_n 1, 1) := by decide +kernel
theorem d_O_kind_1 : decode b_O_kind 1 = .ok (.iconst 0, 1) := by decide +kernel
theorem d_O_kind_2 : decode b_O_kind 2 = .ok (.iconst 3, 1) := by decide +kernel
theorem d_O_kind_3 : decode b_O_kind 3 = .ok (.invokestatic 43, 3) := by decide +kernel
theorem d_O_kind_6 : decode b_O_kind 6 = .ok (.ifCond .ne 6, 3) := by decide +kernel
theorem d_O_kind_9 : decode b_O_kind 9 = .ok (.ldc 47, 2) := by decide +kernel
theorem d_O_kind_11 : decode b_O_kind 11 = .ok (.ireturn, 1) := by decide +kernel
theorem d_O_kind_12 : decode b_O_kind 12 = .ok (.iload_n 2, 1) := by decide +kernel
theorem d_O_kind_13 : decode b_O_kind 13 = .ok (.iconst 0, 1) := by decide +kernel
theorem d_O_kind_14 : decode b_O_kind 14 = .ok (.iconst 2, 1) := by decide +kernel
theorem d_O_kind_15 : decode b_O_kind 15 = .ok (.invokestatic 43, 3) := by decide +kernel
theorem d_O_kind_18 : decode b_O_kind 18 = .ok (.ifCond .ne 6, 3) := by decide +kernel
theorem d_O_kind_21 : decode b_O_kind 21 = .ok (.ldc 48, 2) := by decide +kernel
theorem d_O_kind_23 : decode b_O_kind 23 = .ok (.ireturn, 1) := by decide +kernel
theorem d_O_kind_24 : decode b_O_kind 24 = .ok (.iload_n 2, 1) := by decide +kernel
theorem d_O_kind_25 : decode b_O_kind 25 = .ok (.ifCond .ne 14, 3) := by decide +kernel
theorem d_O_kind_28 : decode b_O_kind 28 = .ok (.iload_n 3, 1) := by decide +kernel
theorem d_O_kind_29 : decode b_O_kind 29 = .ok (.iconst 1, 1) := by decide +kernel
theorem d_O_kind_30 : decode b_O_kind 30 = .ok (.sipush 999, 3) := by decide +kernel
theorem d_O_kind_33 : decode b_O_kind 33 = .ok (.invokestatic 43, 3) := by decide +kernel
theorem d_O_kind_36 : decode b_O_kind 36 = .ok (.goto 10, 3) := by decide +kernel
theorem d_O_kind_39 : decode b_O_kind 39 = .ok (.iload_n 3, 1) := by decide +kernel
theorem d_O_kind_40 : decode b_O_kind 40 = .ok (.iconst 0, 1) := by decide +kernel
theorem d_O_kind_41 : decode b_O_kind 41 = .ok (.bipush 10, 2) := by decide +kernel
theorem d_O_kind_43 : decode b_O_kind 43 = .ok (.invokestatic 43, 3) := by decide +kernel
theorem d_O_kind_46 : decode b_O_kind 46 = .ok (.istore 4, 2) := by decide +kernel
theorem d_O_kind_48 : decode b_O_kind 48 = .ok (.iload 4, 2) := by decide +kernel
theorem d_O_kind_50 : decode b_O_kind 50 = .ok (.ifCond .ne 6, 3) := by decide +kernel
theorem d_O_kind_53 : decode b_O_kind 53 = .ok (.ldc 48, 2) := by decide +kernel
theorem d_O_kind_55 : decode b_O_kind 55 = .ok (.ireturn, 1) := by decide +kernel
theorem d_O_kind_56 : decode b_O_kind 56 = .ok (.aload_n 0, 1) := by decide +kernel
theorem d_O_kind_57 : decode b_O_kind 57 = .ok (.getfield 12, 3) := by decide +kernel
theorem d_O_kind_60 : decode b_O_kind 60 = .ok (.getfield 49, 3) := by decide +kernel
theorem d_O_kind_63 : decode b_O_kind 63 = .ok (.iload_n 1, 1) := by decide +kernel
theorem d_O_kind_64 : decode b_O_kind 64 = .ok (.aaload, 1) := by decide +kernel
theorem d_O_kind_65 : decode b_O_kind 65 = .ok (.iload_n 2, 1) := by decide +kernel
theorem d_O_kind_66 : decode b_O_kind 66 = .ok (.iaload, 1) := by decide +kernel
theorem d_O_kind_67 : decode b_O_kind 67 = .ok (.istore 5, 2) := by decide +kernel
theorem d_O_kind_69 : decode b_O_kind 69 = .ok (.aload_n 0, 1) := by decide +kernel
theorem d_O_kind_70 : decode b_O_kind 70 = .ok (.getfield 12, 3) := by decide +kernel
theorem d_O_kind_73 : decode b_O_kind 73 = .ok (.getfield 49, 3) := by decide +kernel
theorem d_O_kind_76 : decode b_O_kind 76 = .ok (.iload_n 1, 1) := by decide +kernel
theorem d_O_kind_77 : decode b_O_kind 77 = .ok (.aaload, 1) := by decide +kernel
theorem d_O_kind_78 : decode b_O_kind 78 = .ok (.iload_n 2, 1) := by decide +kernel
theorem d_O_kind_79 : decode b_O_kind 79 = .ok (.iload_n 3, 1) := by decide +kernel
theorem d_O_kind_80 : decode b_O_kind 80 = .ok (.iastore, 1) := by decide +kernel
theorem d_O_kind_81 : decode b_O_kind 81 = .ok (.iload 5, 2) := by decide +kernel
theorem d_O_kind_83 : decode b_O_kind 83 = .ok (.ireturn, 1) := by decide +kernel
abbrev b_O_within : ByteArray := prog_1_method_37_code
abbrev y_O_within : MethodName := ⟨"OldBeams", "within", "(III)Z"⟩
theorem d_O_within_0 : decode b_O_within 0 = .ok (.iload_n 0, 1) := by decide +kernel
theorem d_O_within_1 : decode b_O_within 1 = .ok (.iload_n 1, 1) := by decide +kernel
theorem d_O_within_2 : decode b_O_within 2 = .ok (.if_icmp .lt 12, 3) := by decide +kernel
theorem d_O_within_5 : decode b_O_within 5 = .ok (.iload_n 0, 1) := by decide +kernel
theorem d_O_within_6 : decode b_O_within 6 = .ok (.iload_n 2, 1) := by decide +kernel
theorem d_O_within_7 : decode b_O_within 7 = .ok (.if_icmp .gt 7, 3) := by decide +kernel
theorem d_O_within_10 : decode b_O_within 10 = .ok (.iconst 1, 1) := by decide +kernel
theorem d_O_within_11 : decode b_O_within 11 = .ok (.goto 4, 3) := by decide +kernel
theorem d_O_within_14 : decode b_O_within 14 = .ok (.iconst 0, 1) := by decide +kernel
theorem d_O_within_15 : decode b_O_within 15 = .ok (.ireturn, 1) := by decide +kernel
abbrev b_O_beam : ByteArray := prog_1_method_3_code
abbrev y_O_beam : MethodName := ⟨"OldBeams", "beam", "(IIIII)I"⟩
theorem d_O_beam_0 : decode b_O_beam 0 = .ok (.iload_n 1, 1) := by decide +kernel
theorem d_O_beam_1 : decode b_O_beam 1 = .ok (.iconst 0, 1) := by decide +kernel
theorem d_O_beam_2 : decode b_O_beam 2 = .ok (.iconst 3, 1) := by decide +kernel
theorem d_O_beam_3 : decode b_O_beam 3 = .ok (.invokestatic 43, 3) := by decide +kernel
theorem d_O_beam_6 : decode b_O_beam 6 = .ok (.ifCond .ne 6, 3) := by decide +kernel
theorem d_O_beam_9 : decode b_O_beam 9 = .ok (.ldc 47, 2) := by decide +kernel
theorem d_O_beam_11 : decode b_O_beam 11 = .ok (.ireturn, 1) := by decide +kernel
theorem d_O_beam_12 : decode b_O_beam 12 = .ok (.iload_n 2, 1) := by decide +kernel
theorem d_O_beam_13 : decode b_O_beam 13 = .ok (.iconst 2, 1) := by decide +kernel
theorem d_O_beam_14 : decode b_O_beam 14 = .ok (.bipush 60, 2) := by decide +kernel
theorem d_O_beam_16 : decode b_O_beam 16 = .ok (.invokestatic 43, 3) := by decide +kernel
theorem d_O_beam_19 : decode b_O_beam 19 = .ok (.ifCond .eq 24, 3) := by decide +kernel
theorem d_O_beam_22 : decode b_O_beam 22 = .ok (.iload_n 3, 1) := by decide +kernel
theorem d_O_beam_23 : decode b_O_beam 23 = .ok (.iconst 1, 1) := by decide +kernel
theorem d_O_beam_24 : decode b_O_beam 24 = .ok (.bipush 40, 2) := by decide +kernel
theorem d_O_beam_26 : decode b_O_beam 26 = .ok (.invokestatic 43, 3) := by decide +kernel
theorem d_O_beam_29 : decode b_O_beam 29 = .ok (.ifCond .eq 14, 3) := by decide +kernel
theorem d_O_beam_32 : decode b_O_beam 32 = .ok (.iload 4, 2) := by decide +kernel
theorem d_O_beam_34 : decode b_O_beam 34 = .ok (.iconst 1, 1) := by decide +kernel
theorem d_O_beam_35 : decode b_O_beam 35 = .ok (.bipush 40, 2) := by decide +kernel
theorem d_O_beam_37 : decode b_O_beam 37 = .ok (.invokestatic 43, 3) := by decide +kernel
theorem d_O_beam_40 : decode b_O_beam 40 = .ok (.ifCond .ne 6, 3) := by decide +kernel
theorem d_O_beam_43 : decode b_O_beam 43 = .ok (.ldc 48, 2) := by decide +kernel
theorem d_O_beam_45 : decode b_O_beam 45 = .ok (.ireturn, 1) := by decide +kernel
theorem d_O_beam_46 : decode b_O_beam 46 = .ok (.iload 5, 2) := by decide +kernel
theorem d_O_beam_48 : decode b_O_beam 48 = .ok (.invokestatic 53, 3) := by decide +kernel
theorem d_O_beam_51 : decode b_O_beam 51 = .ok (.ifCond .ne 6, 3) := by decide +kernel
theorem d_O_beam_54 : decode b_O_beam 54 = .ok (.ldc 48, 2) := by decide +kernel
theorem d_O_beam_56 : decode b_O_beam 56 = .ok (.ireturn, 1) := by decide +kernel
theorem d_O_beam_57 : decode b_O_beam 57 = .ok (.aload_n 0, 1) := by decide +kernel
theorem d_O_beam_58 : decode b_O_beam 58 = .ok (.getfield 12, 3) := by decide +kernel
theorem d_O_beam_61 : decode b_O_beam 61 = .ok (.getfield 57, 3) := by decide +kernel
theorem d_O_beam_64 : decode b_O_beam 64 = .ok (.bipush 12, 2) := by decide +kernel
theorem d_O_beam_66 : decode b_O_beam 66 = .ok (.if_icmp .lt 6, 3) := by decide +kernel
theorem d_O_beam_69 : decode b_O_beam 69 = .ok (.ldc 61, 2) := by decide +kernel
theorem d_O_beam_71 : decode b_O_beam 71 = .ok (.ireturn, 1) := by decide +kernel
theorem d_O_beam_72 : decode b_O_beam 72 = .ok (.aload_n 0, 1) := by decide +kernel
theorem d_O_beam_73 : decode b_O_beam 73 = .ok (.getfield 12, 3) := by decide +kernel
theorem d_O_beam_76 : decode b_O_beam 76 = .ok (.iload_n 1, 1) := by decide +kernel
theorem d_O_beam_77 : decode b_O_beam 77 = .ok (.iload_n 2, 1) := by decide +kernel
theorem d_O_beam_78 : decode b_O_beam 78 = .ok (.iload_n 3, 1) := by decide +kernel
theorem d_O_beam_79 : decode b_O_beam 79 = .ok (.iload 4, 2) := by decide +kernel
theorem d_O_beam_81 : decode b_O_beam 81 = .ok (.invokevirtual 62, 3) := by decide +kernel
theorem d_O_beam_84 : decode b_O_beam 84 = .ok (.ireturn, 1) := by decide +kernel
abbrev b_O_isYear : ByteArray := prog_1_method_38_code
abbrev y_O_isYear : MethodName := ⟨"OldBeams", "isYear", "(I)Z"⟩
theorem d_O_isYear_0 : decode b_O_isYear 0 = .ok (.iload_n 0, 1) := by decide +kernel
theorem d_O_isYear_1 : decode b_O_isYear 1 = .ok (.iconst 0, 1) := by decide +kernel
theorem d_O_isYear_2 : decode b_O_isYear 2 = .ok (.sipush 500, 3) := by decide +kernel
theorem d_O_isYear_5 : decode b_O_isYear 5 = .ok (.invokestatic 43, 3) := by decide +kernel
theorem d_O_isYear_8 : decode b_O_isYear 8 = .ok (.ireturn, 1) := by decide +kernel
abbrev b_O_seat : ByteArray := prog_1_method_4_code
abbrev y_O_seat : MethodName := ⟨"OldBeams", "seat", "(IIIII)I"⟩
theorem d_O_seat_0 : decode b_O_seat 0 = .ok (.aload_n 0, 1) := by decide +kernel
theorem d_O_seat_1 : decode b_O_seat 1 = .ok (.getfield 12, 3) := by decide +kernel
theorem d_O_seat_4 : decode b_O_seat 4 = .ok (.iload_n 1, 1) := by decide +kernel
theorem d_O_seat_5 : decode b_O_seat 5 = .ok (.invokevirtual 66, 3) := by decide +kernel
theorem d_O_seat_8 : decode b_O_seat 8 = .ok (.ifCond .ne 6, 3) := by decide +kernel
theorem d_O_seat_11 : decode b_O_seat 11 = .ok (.ldc 47, 2) := by decide +kernel
theorem d_O_seat_13 : decode b_O_seat 13 = .ok (.ireturn, 1) := by decide +kernel
theorem d_O_seat_14 : decode b_O_seat 14 = .ok (.iload_n 2, 1) := by decide +kernel
theorem d_O_seat_15 : decode b_O_seat 15 = .ok (.iconst 0, 1) := by decide +kernel
theorem d_O_seat_16 : decode b_O_seat 16 = .ok (.iconst 1, 1) := by decide +kernel
theorem d_O_seat_17 : decode b_O_seat 17 = .ok (.invokestatic 43, 3) := by decide +kernel
theorem d_O_seat_20 : decode b_O_seat 20 = .ok (.ifCond .eq 15, 3) := by decide +kernel
theorem d_O_seat_23 : decode b_O_seat 23 = .ok (.aload_n 0, 1) := by decide +kernel
theorem d_O_seat_24 : decode b_O_seat 24 = .ok (.getfield 12, 3) := by decide +kernel
theorem d_O_seat_27 : decode b_O_seat 27 = .ok (.iload_n 1, 1) := by decide +kernel
theorem d_O_seat_28 : decode b_O_seat 28 = .ok (.iload_n 3, 1) := by decide +kernel
theorem d_O_seat_29 : decode b_O_seat 29 = .ok (.invokevirtual 69, 3) := by decide +kernel
theorem d_O_seat_32 : decode b_O_seat 32 = .ok (.ifCond .ne 6, 3) := by decide +kernel
theorem d_O_seat_35 : decode b_O_seat 35 = .ok (.ldc 48, 2) := by decide +kernel
theorem d_O_seat_37 : decode b_O_seat 37 = .ok (.ireturn, 1) := by decide +kernel
theorem d_O_seat_38 : decode b_O_seat 38 = .ok (.iload 4, 2) := by decide +kernel
theorem d_O_seat_40 : decode b_O_seat 40 = .ok (.ldc 73, 2) := by decide +kernel
theorem d_O_seat_42 : decode b_O_seat 42 = .ok (.if_icmp .eq 35, 3) := by decide +kernel
theorem d_O_seat_45 : decode b_O_seat 45 = .ok (.iload 4, 2) := by decide +kernel
theorem d_O_seat_47 : decode b_O_seat 47 = .ok (.iconst 0, 1) := by decide +kernel
theorem d_O_seat_48 : decode b_O_seat 48 = .ok (.iload_n 1, 1) := by decide +kernel
theorem d_O_seat_49 : decode b_O_seat 49 = .ok (.iconst 1, 1) := by decide +kernel
theorem d_O_seat_50 : decode b_O_seat 50 = .ok (.isub, 1) := by decide +kernel
theorem d_O_seat_51 : decode b_O_seat 51 = .ok (.invokestatic 43, 3) := by decide +kernel
theorem d_O_seat_54 : decode b_O_seat 54 = .ok (.ifCond .ne 6, 3) := by decide +kernel
theorem d_O_seat_57 : decode b_O_seat 57 = .ok (.ldc 74, 2) := by decide +kernel
theorem d_O_seat_59 : decode b_O_seat 59 = .ok (.ireturn, 1) := by decide +kernel
theorem d_O_seat_60 : decode b_O_seat 60 = .ok (.aload_n 0, 1) := by decide +kernel
theorem d_O_seat_61 : decode b_O_seat 61 = .ok (.getfield 12, 3) := by decide +kernel
theorem d_O_seat_64 : decode b_O_seat 64 = .ok (.iload 4, 2) := by decide +kernel
theorem d_O_seat_66 : decode b_O_seat 66 = .ok (.iload 5, 2) := by decide +kernel
theorem d_O_seat_68 : decode b_O_seat 68 = .ok (.invokevirtual 69, 3) := by decide +kernel
theorem d_O_seat_71 : decode b_O_seat 71 = .ok (.ifCond .ne 6, 3) := by decide +kernel
theorem d_O_seat_74 : decode b_O_seat 74 = .ok (.ldc 48, 2) := by decide +kernel
theorem d_O_seat_76 : decode b_O_seat 76 = .ok (.ireturn, 1) := by decide +kernel
theorem d_O_seat_77 : decode b_O_seat 77 = .ok (.aload_n 0, 1) := by decide +kernel
theorem d_O_seat_78 : decode b_O_seat 78 = .ok (.getfield 12, 3) := by decide +kernel
theorem d_O_seat_81 : decode b_O_seat 81 = .ok (.getfield 75, 3) := by decide +kernel
theorem d_O_seat_84 : decode b_O_seat 84 = .ok (.iload_n 1, 1) := by decide +kernel
theorem d_O_seat_85 : decode b_O_seat 85 = .ok (.aaload, 1) := by decide +kernel
theorem d_O_seat_86 : decode b_O_seat 86 = .ok (.astore 6, 2) := by decide +kernel
theorem d_O_seat_88 : decode b_O_seat 88 = .ok (.aload 6, 2) := by decide +kernel
theorem d_O_seat_90 : decode b_O_seat 90 = .ok (.iload_n 2, 1) := by decide +kernel
theorem d_O_seat_91 : decode b_O_seat 91 = .ok (.iload_n 3, 1) := by decide +kernel
theorem d_O_seat_92 : decode b_O_seat 92 = .ok (.invokevirtual 79, 3) := by decide +kernel
theorem d_O_seat_95 : decode b_O_seat 95 = .ok (.ifCond .ne 6, 3) := by decide +kernel
theorem d_O_seat_98 : decode b_O_seat 98 = .ok (.ldc 74, 2) := by decide +kernel
theorem d_O_seat_100 : decode b_O_seat 100 = .ok (.ireturn, 1) := by decide +kernel
theorem d_O_seat_101 : decode b_O_seat 101 = .ok (.aload 6, 2) := by decide +kernel
theorem d_O_seat_103 : decode b_O_seat 103 = .ok (.getfield 84, 3) := by decide +kernel
theorem d_O_seat_106 : decode b_O_seat 106 = .ok (.iload_n 2, 1) := by decide +kernel
theorem d_O_seat_107 : decode b_O_seat 107 = .ok (.iaload, 1) := by decide +kernel
theorem d_O_seat_108 : decode b_O_seat 108 = .ok (.istore 7, 2) := by decide +kernel
theorem d_O_seat_110 : decode b_O_seat 110 = .ok (.aload 6, 2) := by decide +kernel
theorem d_O_seat_112 : decode b_O_seat 112 = .ok (.iload_n 2, 1) := by decide +kernel
theorem d_O_seat_113 : decode b_O_seat 113 = .ok (.iload_n 3, 1) := by decide +kernel
theorem d_O_seat_114 : decode b_O_seat 114 = .ok (.iload 4, 2) := by decide +kernel
theorem d_O_seat_116 : decode b_O_seat 116 = .ok (.iload 5, 2) := by decide +kernel
theorem d_O_seat_118 : decode b_O_seat 118 = .ok (.invokevirtual 87, 3) := by decide +kernel
theorem d_O_seat_121 : decode b_O_seat 121 = .ok (.iload 7, 2) := by decide +kernel
theorem d_O_seat_123 : decode b_O_seat 123 = .ok (.ireturn, 1) := by decide +kernel
abbrev b_O_about : ByteArray := prog_1_method_5_code
abbrev y_O_about : MethodName := ⟨"OldBeams", "about", "(II)I"⟩
theorem d_O_about_0 : decode b_O_about 0 = .ok (.aload_n 0, 1) := by decide +kernel
theorem d_O_about_1 : decode b_O_about 1 = .ok (.getfield 12, 3) := by decide +kernel
theorem d_O_about_4 : decode b_O_about 4 = .ok (.iload_n 1, 1) := by decide +kernel
theorem d_O_about_5 : decode b_O_about 5 = .ok (.invokevirtual 66, 3) := by decide +kernel
theorem d_O_about_8 : decode b_O_about 8 = .ok (.ifCond .ne 6, 3) := by decide +kernel
theorem d_O_about_11 : decode b_O_about 11 = .ok (.ldc 47, 2) := by decide +kernel
theorem d_O_about_13 : decode b_O_about 13 = .ok (.ireturn, 1) := by decide +kernel
theorem d_O_about_14 : decode b_O_about 14 = .ok (.aload_n 0, 1) := by decide +kernel
theorem d_O_about_15 : decode b_O_about 15 = .ok (.getfield 12, 3) := by decide +kernel
theorem d_O_about_18 : decode b_O_about 18 = .ok (.getfield 75, 3) := by decide +kernel
theorem d_O_about_21 : decode b_O_about 21 = .ok (.iload_n 1, 1) := by decide +kernel
theorem d_O_about_22 : decode b_O_about 22 = .ok (.aaload, 1) := by decide +kernel
theorem d_O_about_23 : decode b_O_about 23 = .ok (.astore_n 3, 1) := by decide +kernel
theorem d_O_about_24 : decode b_O_about 24 = .ok (.iload_n 2, 1) := by decide +kernel
theorem d_O_about_25 : decode b_O_about 25 = .ok (.tableswitch 109 0 7 #[47, 52, 59, 66, 73, 80, 89, 97], 47) := by decide +kernel
theorem d_O_about_72 : decode b_O_about 72 = .ok (.aload_n 3, 1) := by decide +kernel
theorem d_O_about_73 : decode b_O_about 73 = .ok (.getfield 91, 3) := by decide +kernel
theorem d_O_about_76 : decode b_O_about 76 = .ok (.ireturn, 1) := by decide +kernel
theorem d_O_about_77 : decode b_O_about 77 = .ok (.aload_n 3, 1) := by decide +kernel
theorem d_O_about_78 : decode b_O_about 78 = .ok (.getfield 84, 3) := by decide +kernel
theorem d_O_about_81 : decode b_O_about 81 = .ok (.iconst 0, 1) := by decide +kernel
theorem d_O_about_82 : decode b_O_about 82 = .ok (.iaload, 1) := by decide +kernel
theorem d_O_about_83 : decode b_O_about 83 = .ok (.ireturn, 1) := by decide +kernel
theorem d_O_about_84 : decode b_O_about 84 = .ok (.aload_n 3, 1) := by decide +kernel
theorem d_O_about_85 : decode b_O_about 85 = .ok (.getfield 84, 3) := by decide +kernel
theorem d_O_about_88 : decode b_O_about 88 = .ok (.iconst 1, 1) := by decide +kernel
theorem d_O_about_89 : decode b_O_about 89 = .ok (.iaload, 1) := by decide +kernel
theorem d_O_about_90 : decode b_O_about 90 = .ok (.ireturn, 1) := by decide +kernel
theorem d_O_about_91 : decode b_O_about 91 = .ok (.aload_n 3, 1) := by decide +kernel
theorem d_O_about_92 : decode b_O_about 92 = .ok (.getfield 94, 3) := by decide +kernel
theorem d_O_about_95 : decode b_O_about 95 = .ok (.iconst 0, 1) := by decide +kernel
theorem d_O_about_96 : decode b_O_about 96 = .ok (.iaload, 1) := by decide +kernel
theorem d_O_about_97 : decode b_O_about 97 = .ok (.ireturn, 1) := by decide +kernel
theorem d_O_about_98 : decode b_O_about 98 = .ok (.aload_n 3, 1) := by decide +kernel
theorem d_O_about_99 : decode b_O_about 99 = .ok (.getfield 94, 3) := by decide +kernel
theorem d_O_about_102 : decode b_O_about 102 = .ok (.iconst 1, 1) := by decide +kernel
theorem d_O_about_103 : decode b_O_about 103 = .ok (.iaload, 1) := by decide +kernel
theorem d_O_about_104 : decode b_O_about 104 = .ok (.ireturn, 1) := by decide +kernel
theorem d_O_about_105 : decode b_O_about 105 = .ok (.aload_n 0, 1) := by decide +kernel
theorem d_O_about_106 : decode b_O_about 106 = .ok (.getfield 12, 3) := by decide +kernel
theorem d_O_about_109 : decode b_O_about 109 = .ok (.iload_n 1, 1) := by decide +kernel
theorem d_O_about_110 : decode b_O_about 110 = .ok (.invokevirtual 97, 3) := by decide +kernel
theorem d_O_about_113 : decode b_O_about 113 = .ok (.ireturn, 1) := by decide +kernel
theorem d_O_about_114 : decode b_O_about 114 = .ok (.aload_n 3, 1) := by decide +kernel
theorem d_O_about_115 : decode b_O_about 115 = .ok (.getfield 101, 3) := by decide +kernel
theorem d_O_about_118 : decode b_O_about 118 = .ok (.invokestatic 105, 3) := by decide +kernel
theorem d_O_about_121 : decode b_O_about 121 = .ok (.ireturn, 1) := by decide +kernel
theorem d_O_about_122 : decode b_O_about 122 = .ok (.aload_n 0, 1) := by decide +kernel
theorem d_O_about_123 : decode b_O_about 123 = .ok (.getfield 12, 3) := by decide +kernel
theorem d_O_about_126 : decode b_O_about 126 = .ok (.iload_n 1, 1) := by decide +kernel
theorem d_O_about_127 : decode b_O_about 127 = .ok (.invokevirtual 109, 3) := by decide +kernel
theorem d_O_about_130 : decode b_O_about 130 = .ok (.invokestatic 105, 3) := by decide +kernel
theorem d_O_about_133 : decode b_O_about 133 = .ok (.ireturn, 1) := by decide +kernel
theorem d_O_about_134 : decode b_O_about 134 = .ok (.ldc 48, 2) := by decide +kernel
theorem d_O_about_136 : decode b_O_about 136 = .ok (.ireturn, 1) := by decide +kernel
abbrev b_O_asNumber : ByteArray := prog_1_method_42_code
abbrev y_O_asNumber : MethodName := ⟨"OldBeams", "asNumber", "(Z)I"⟩
theorem d_O_asNumber_0 : decode b_O_asNumber 0 = .ok (.iload_n 0, 1) := by decide +kernel
theorem d_O_asNumber_1 : decode b_O_asNumber 1 = .ok (.ifCond .eq 7, 3) := by decide +kernel
theorem d_O_asNumber_4 : decode b_O_asNumber 4 = .ok (.iconst 1, 1) := by decide +kernel
theorem d_O_asNumber_5 : decode b_O_asNumber 5 = .ok (.goto 4, 3) := by decide +kernel
theorem d_O_asNumber_8 : decode b_O_asNumber 8 = .ok (.iconst 0, 1) := by decide +kernel
theorem d_O_asNumber_9 : decode b_O_asNumber 9 = .ok (.ireturn, 1) := by decide +kernel
abbrev b_O_isIn : ByteArray := prog_1_method_41_code
abbrev y_O_isIn : MethodName := ⟨"OldBeams", "isIn", "(II)Z"⟩
theorem d_O_isIn_0 : decode b_O_isIn 0 = .ok (.iload_n 0, 1) := by decide +kernel
theorem d_O_isIn_1 : decode b_O_isIn 1 = .ok (.iload_n 1, 1) := by decide +kernel
theorem d_O_isIn_2 : decode b_O_isIn 2 = .ok (.ishr, 1) := by decide +kernel
theorem d_O_isIn_3 : decode b_O_isIn 3 = .ok (.iconst 1, 1) := by decide +kernel
theorem d_O_isIn_4 : decode b_O_isIn 4 = .ok (.iand, 1) := by decide +kernel
theorem d_O_isIn_5 : decode b_O_isIn 5 = .ok (.ifCond .eq 7, 3) := by decide +kernel
theorem d_O_isIn_8 : decode b_O_isIn 8 = .ok (.iconst 1, 1) := by decide +kernel
theorem d_O_isIn_9 : decode b_O_isIn 9 = .ok (.goto 4, 3) := by decide +kernel
theorem d_O_isIn_12 : decode b_O_isIn 12 = .ok (.iconst 0, 1) := by decide +kernel
theorem d_O_isIn_13 : decode b_O_isIn 13 = .ok (.ireturn, 1) := by decide +kernel
abbrev b_O_wet : ByteArray := prog_1_method_6_code
abbrev y_O_wet : MethodName := ⟨"OldBeams", "wet", "(IZ)I"⟩
theorem d_O_wet_0 : decode b_O_wet 0 = .ok (.aload_n 0, 1) := by decide +kernel
theorem d_O_wet_1 : decode b_O_wet 1 = .ok (.getfield 12, 3) := by decide +kernel
theorem d_O_wet_4 : decode b_O_wet 4 = .ok (.iload_n 1, 1) := by decide +kernel
theorem d_O_wet_5 : decode b_O_wet 5 = .ok (.invokevirtual 66, 3) := by decide +kernel
theorem d_O_wet_8 : decode b_O_wet 8 = .ok (.ifCond .ne 6, 3) := by decide +kernel
theorem d_O_wet_11 : decode b_O_wet 11 = .ok (.ldc 47, 2) := by decide +kernel
theorem d_O_wet_13 : decode b_O_wet 13 = .ok (.ireturn, 1) := by decide +kernel
theorem d_O_wet_14 : decode b_O_wet 14 = .ok (.aload_n 0, 1) := by decide +kernel
theorem d_O_wet_15 : decode b_O_wet 15 = .ok (.getfield 12, 3) := by decide +kernel
theorem d_O_wet_18 : decode b_O_wet 18 = .ok (.getfield 75, 3) := by decide +kernel
theorem d_O_wet_21 : decode b_O_wet 21 = .ok (.iload_n 1, 1) := by decide +kernel
theorem d_O_wet_22 : decode b_O_wet 22 = .ok (.aaload, 1) := by decide +kernel
theorem d_O_wet_23 : decode b_O_wet 23 = .ok (.astore_n 3, 1) := by decide +kernel
theorem d_O_wet_24 : decode b_O_wet 24 = .ok (.aload_n 3, 1) := by decide +kernel
theorem d_O_wet_25 : decode b_O_wet 25 = .ok (.getfield 101, 3) := by decide +kernel
theorem d_O_wet_28 : decode b_O_wet 28 = .ok (.invokestatic 105, 3) := by decide +kernel
theorem d_O_wet_31 : decode b_O_wet 31 = .ok (.istore 4, 2) := by decide +kernel
theorem d_O_wet_33 : decode b_O_wet 33 = .ok (.aload_n 3, 1) := by decide +kernel
theorem d_O_wet_34 : decode b_O_wet 34 = .ok (.iload_n 2, 1) := by decide +kernel
theorem d_O_wet_35 : decode b_O_wet 35 = .ok (.putfield 101, 3) := by decide +kernel
theorem d_O_wet_38 : decode b_O_wet 38 = .ok (.iload 4, 2) := by decide +kernel
theorem d_O_wet_40 : decode b_O_wet 40 = .ok (.ireturn, 1) := by decide +kernel
abbrev b_O_load : ByteArray := prog_1_method_7_code
abbrev y_O_load : MethodName := ⟨"OldBeams", "load", "(III)I"⟩
theorem d_O_load_0 : decode b_O_load 0 = .ok (.aload_n 0, 1) := by decide +kernel
theorem d_O_load_1 : decode b_O_load 1 = .ok (.getfield 12, 3) := by decide +kernel
theorem d_O_load_4 : decode b_O_load 4 = .ok (.iload_n 1, 1) := by decide +kernel
theorem d_O_load_5 : decode b_O_load 5 = .ok (.invokevirtual 66, 3) := by decide +kernel
theorem d_O_load_8 : decode b_O_load 8 = .ok (.ifCond .ne 6, 3) := by decide +kernel
theorem d_O_load_11 : decode b_O_load 11 = .ok (.ldc 47, 2) := by decide +kernel
theorem d_O_load_13 : decode b_O_load 13 = .ok (.ireturn, 1) := by decide +kernel
theorem d_O_load_14 : decode b_O_load 14 = .ok (.aload_n 0, 1) := by decide +kernel
theorem d_O_load_15 : decode b_O_load 15 = .ok (.getfield 12, 3) := by decide +kernel
theorem d_O_load_18 : decode b_O_load 18 = .ok (.iload_n 1, 1) := by decide +kernel
theorem d_O_load_19 : decode b_O_load 19 = .ok (.iload_n 2, 1) := by decide +kernel
theorem d_O_load_20 : decode b_O_load 20 = .ok (.invokevirtual 69, 3) := by decide +kernel
theorem d_O_load_23 : decode b_O_load 23 = .ok (.ifCond .eq 14, 3) := by decide +kernel
theorem d_O_load_26 : decode b_O_load 26 = .ok (.iload_n 3, 1) := by decide +kernel
theorem d_O_load_27 : decode b_O_load 27 = .ok (.iconst 1, 1) := by decide +kernel
theorem d_O_load_28 : decode b_O_load 28 = .ok (.sipush 9999, 3) := by decide +kernel
theorem d_O_load_31 : decode b_O_load 31 = .ok (.invokestatic 43, 3) := by decide +kernel
theorem d_O_load_34 : decode b_O_load 34 = .ok (.ifCond .ne 6, 3) := by decide +kernel
theorem d_O_load_37 : decode b_O_load 37 = .ok (.ldc 48, 2) := by decide +kernel
theorem d_O_load_39 : decode b_O_load 39 = .ok (.ireturn, 1) := by decide +kernel
theorem d_O_load_40 : decode b_O_load 40 = .ok (.aload_n 0, 1) := by decide +kernel
theorem d_O_load_41 : decode b_O_load 41 = .ok (.getfield 12, 3) := by decide +kernel
theorem d_O_load_44 : decode b_O_load 44 = .ok (.getfield 112, 3) := by decide +kernel
theorem d_O_load_47 : decode b_O_load 47 = .ok (.bipush 40, 2) := by decide +kernel
theorem d_O_load_49 : decode b_O_load 49 = .ok (.if_icmp .lt 6, 3) := by decide +kernel
theorem d_O_load_52 : decode b_O_load 52 = .ok (.ldc 61, 2) := by decide +kernel
theorem d_O_load_54 : decode b_O_load 54 = .ok (.ireturn, 1) := by decide +kernel
theorem d_O_load_55 : decode b_O_load 55 = .ok (.aload_n 0, 1) := by decide +kernel
theorem d_O_load_56 : decode b_O_load 56 = .ok (.getfield 12, 3) := by decide +kernel
theorem d_O_load_59 : decode b_O_load 59 = .ok (.iload_n 1, 1) := by decide +kernel
theorem d_O_load_60 : decode b_O_load 60 = .ok (.iload_n 2, 1) := by decide +kernel
theorem d_O_load_61 : decode b_O_load 61 = .ok (.iload_n 3, 1) := by decide +kernel
theorem d_O_load_62 : decode b_O_load 62 = .ok (.invokevirtual 115, 3) := by decide +kernel
theorem d_O_load_65 : decode b_O_load 65 = .ok (.ireturn, 1) := by decide +kernel
abbrev b_O_takeOff : ByteArray := prog_1_method_8_code
abbrev y_O_takeOff : MethodName := ⟨"OldBeams", "takeOff", "(I)I"⟩
theorem d_O_takeOff_0 : decode b_O_takeOff 0 = .ok (.iload_n 1, 1) := by decide +kernel
theorem d_O_takeOff_1 : decode b_O_takeOff 1 = .ok (.iconst 0, 1) := by decide +kernel
theorem d_O_takeOff_2 : decode b_O_takeOff 2 = .ok (.aload_n 0, 1) := by decide +kernel
theorem d_O_takeOff_3 : decode b_O_takeOff 3 = .ok (.getfield 12, 3) := by decide +kernel
theorem d_O_takeOff_6 : decode b_O_takeOff 6 = .ok (.getfield 112, 3) := by decide +kernel
theorem d_O_takeOff_9 : decode b_O_takeOff 9 = .ok (.iconst 1, 1) := by decide +kernel
theorem d_O_takeOff_10 : decode b_O_takeOff 10 = .ok (.isub, 1) := by decide +kernel
theorem d_O_takeOff_11 : decode b_O_takeOff 11 = .ok (.invokestatic 43, 3) := by decide +kernel
theorem d_O_takeOff_14 : decode b_O_takeOff 14 = .ok (.ifCond .ne 6, 3) := by decide +kernel
theorem d_O_takeOff_17 : decode b_O_takeOff 17 = .ok (.ldc 47, 2) := by decide +kernel
theorem d_O_takeOff_19 : decode b_O_takeOff 19 = .ok (.ireturn, 1) := by decide +kernel
theorem d_O_takeOff_20 : decode b_O_takeOff 20 = .ok (.aload_n 0, 1) := by decide +kernel
theorem d_O_takeOff_21 : decode b_O_takeOff 21 = .ok (.getfield 12, 3) := by decide +kernel
theorem d_O_takeOff_24 : decode b_O_takeOff 24 = .ok (.getfield 119, 3) := by decide +kernel
theorem d_O_takeOff_27 : decode b_O_takeOff 27 = .ok (.iload_n 1, 1) := by decide +kernel
theorem d_O_takeOff_28 : decode b_O_takeOff 28 = .ok (.baload, 1) := by decide +kernel
theorem d_O_takeOff_29 : decode b_O_takeOff 29 = .ok (.ifCond .ne 6, 3) := by decide +kernel
theorem d_O_takeOff_32 : decode b_O_takeOff 32 = .ok (.ldc 74, 2) := by decide +kernel
theorem d_O_takeOff_34 : decode b_O_takeOff 34 = .ok (.ireturn, 1) := by decide +kernel
theorem d_O_takeOff_35 : decode b_O_takeOff 35 = .ok (.aload_n 0, 1) := by decide +kernel
theorem d_O_takeOff_36 : decode b_O_takeOff 36 = .ok (.getfield 12, 3) := by decide +kernel
theorem d_O_takeOff_39 : decode b_O_takeOff 39 = .ok (.iload_n 1, 1) := by decide +kernel
theorem d_O_takeOff_40 : decode b_O_takeOff 40 = .ok (.invokevirtual 123, 3) := by decide +kernel
theorem d_O_takeOff_43 : decode b_O_takeOff 43 = .ok (.aload_n 0, 1) := by decide +kernel
theorem d_O_takeOff_44 : decode b_O_takeOff 44 = .ok (.getfield 12, 3) := by decide +kernel
theorem d_O_takeOff_47 : decode b_O_takeOff 47 = .ok (.getfield 127, 3) := by decide +kernel
theorem d_O_takeOff_50 : decode b_O_takeOff 50 = .ok (.iload_n 1, 1) := by decide +kernel
theorem d_O_takeOff_51 : decode b_O_takeOff 51 = .ok (.iaload, 1) := by decide +kernel
theorem d_O_takeOff_52 : decode b_O_takeOff 52 = .ok (.ireturn, 1) := by decide +kernel
abbrev b_O_fall : ByteArray := prog_1_method_9_code
abbrev y_O_fall : MethodName := ⟨"OldBeams", "fall", "(I)I"⟩
theorem d_O_fall_0 : decode b_O_fall 0 = .ok (.aload_n 0, 1) := by decide +kernel
theorem d_O_fall_1 : decode b_O_fall 1 = .ok (.getfield 12, 3) := by decide +kernel
theorem d_O_fall_4 : decode b_O_fall 4 = .ok (.iload_n 1, 1) := by decide +kernel
theorem d_O_fall_5 : decode b_O_fall 5 = .ok (.invokevirtual 66, 3) := by decide +kernel
theorem d_O_fall_8 : decode b_O_fall 8 = .ok (.ifCond .ne 6, 3) := by decide +kernel
theorem d_O_fall_11 : decode b_O_fall 11 = .ok (.ldc 47, 2) := by decide +kernel
theorem d_O_fall_13 : decode b_O_fall 13 = .ok (.ireturn, 1) := by decide +kernel
theorem d_O_fall_14 : decode b_O_fall 14 = .ok (.aload_n 0, 1) := by decide +kernel
theorem d_O_fall_15 : decode b_O_fall 15 = .ok (.getfield 12, 3) := by decide +kernel
theorem d_O_fall_18 : decode b_O_fall 18 = .ok (.getfield 130, 3) := by decide +kernel
theorem d_O_fall_21 : decode b_O_fall 21 = .ok (.iload_n 1, 1) := by decide +kernel
theorem d_O_fall_22 : decode b_O_fall 22 = .ok (.invokestatic 133, 3) := by decide +kernel
theorem d_O_fall_25 : decode b_O_fall 25 = .ok (.ifCond .eq 6, 3) := by decide +kernel
theorem d_O_fall_28 : decode b_O_fall 28 = .ok (.ldc 74, 2) := by decide +kernel
theorem d_O_fall_30 : decode b_O_fall 30 = .ok (.ireturn, 1) := by decide +kernel
theorem d_O_fall_31 : decode b_O_fall 31 = .ok (.aload_n 0, 1) := by decide +kernel
theorem d_O_fall_32 : decode b_O_fall 32 = .ok (.getfield 12, 3) := by decide +kernel
theorem d_O_fall_35 : decode b_O_fall 35 = .ok (.dup, 1) := by decide +kernel
theorem d_O_fall_36 : decode b_O_fall 36 = .ok (.getfield 130, 3) := by decide +kernel
theorem d_O_fall_39 : decode b_O_fall 39 = .ok (.iconst 1, 1) := by decide +kernel
theorem d_O_fall_40 : decode b_O_fall 40 = .ok (.iload_n 1, 1) := by decide +kernel
theorem d_O_fall_41 : decode b_O_fall 41 = .ok (.ishl, 1) := by decide +kernel
theorem d_O_fall_42 : decode b_O_fall 42 = .ok (.ior, 1) := by decide +kernel
theorem d_O_fall_43 : decode b_O_fall 43 = .ok (.putfield 130, 3) := by decide +kernel
theorem d_O_fall_46 : decode b_O_fall 46 = .ok (.aload_n 0, 1) := by decide +kernel
theorem d_O_fall_47 : decode b_O_fall 47 = .ok (.getfield 12, 3) := by decide +kernel
theorem d_O_fall_50 : decode b_O_fall 50 = .ok (.aload_n 0, 1) := by decide +kernel
theorem d_O_fall_51 : decode b_O_fall 51 = .ok (.getfield 12, 3) := by decide +kernel
theorem d_O_fall_54 : decode b_O_fall 54 = .ok (.getfield 130, 3) := by decide +kernel
theorem d_O_fall_57 : decode b_O_fall 57 = .ok (.invokevirtual 136, 3) := by decide +kernel
theorem d_O_fall_60 : decode b_O_fall 60 = .ok (.invokestatic 139, 3) := by decide +kernel
theorem d_O_fall_63 : decode b_O_fall 63 = .ok (.ireturn, 1) := by decide +kernel
abbrev b_O_push : ByteArray := prog_1_method_10_code
abbrev y_O_push : MethodName := ⟨"OldBeams", "push", "(II)J"⟩
theorem d_O_push_0 : decode b_O_push 0 = .ok (.aload_n 0, 1) := by decide +kernel
theorem d_O_push_1 : decode b_O_push 1 = .ok (.iload_n 1, 1) := by decide +kernel
theorem d_O_push_2 : decode b_O_push 2 = .ok (.iload_n 2, 1) := by decide +kernel
theorem d_O_push_3 : decode b_O_push 3 = .ok (.iconst 0, 1) := by decide +kernel
theorem d_O_push_4 : decode b_O_push 4 = .ok (.iconst 1, 1) := by decide +kernel
theorem d_O_push_5 : decode b_O_push 5 = .ok (.invokestatic 43, 3) := by decide +kernel
theorem d_O_push_8 : decode b_O_push 8 = .ok (.invokevirtual 144, 3) := by decide +kernel
theorem d_O_push_11 : decode b_O_push 11 = .ok (.istore_n 3, 1) := by decide +kernel
theorem d_O_push_12 : decode b_O_push 12 = .ok (.iload_n 3, 1) := by decide +kernel
theorem d_O_push_13 : decode b_O_push 13 = .ok (.ifCond .eq 6, 3) := by decide +kernel
theorem d_O_push_16 : decode b_O_push 16 = .ok (.iload_n 3, 1) := by decide +kernel
theorem d_O_push_17 : decode b_O_push 17 = .ok (.i2l, 1) := by decide +kernel
theorem d_O_push_18 : decode b_O_push 18 = .ok (.lreturn, 1) := by decide +kernel
theorem d_O_push_19 : decode b_O_push 19 = .ok (.aload_n 0, 1) := by decide +kernel
theorem d_O_push_20 : decode b_O_push 20 = .ok (.getfield 12, 3) := by decide +kernel
theorem d_O_push_23 : decode b_O_push 23 = .ok (.invokevirtual 148, 3) := by decide +kernel
theorem d_O_push_26 : decode b_O_push 26 = .ok (.aload_n 0, 1) := by decide +kernel
theorem d_O_push_27 : decode b_O_push 27 = .ok (.getfield 12, 3) := by decide +kernel
theorem d_O_push_30 : decode b_O_push 30 = .ok (.getfield 75, 3) := by decide +kernel
theorem d_O_push_33 : decode b_O_push 33 = .ok (.iload_n 1, 1) := by decide +kernel
theorem d_O_push_34 : decode b_O_push 34 = .ok (.aaload, 1) := by decide +kernel
theorem d_O_push_35 : decode b_O_push 35 = .ok (.getfield 151, 3) := by decide +kernel
theorem d_O_push_38 : decode b_O_push 38 = .ok (.iload_n 2, 1) := by decide +kernel
theorem d_O_push_39 : decode b_O_push 39 = .ok (.laload, 1) := by decide +kernel
theorem d_O_push_40 : decode b_O_push 40 = .ok (.lreturn, 1) := by decide +kernel
abbrev b_O_refusal : ByteArray := prog_1_method_43_code
abbrev y_O_refusal : MethodName := ⟨"OldBeams", "refusal", "(IZ)I"⟩
theorem d_O_refusal_0 : decode b_O_refusal 0 = .ok (.aload_n 0, 1) := by decide +kernel
theorem d_O_refusal_1 : decode b_O_refusal 1 = .ok (.getfield 12, 3) := by decide +kernel
theorem d_O_refusal_4 : decode b_O_refusal 4 = .ok (.iload_n 1, 1) := by decide +kernel
theorem d_O_refusal_5 : decode b_O_refusal 5 = .ok (.invokevirtual 66, 3) := by decide +kernel
theorem d_O_refusal_8 : decode b_O_refusal 8 = .ok (.ifCond .ne 6, 3) := by decide +kernel
theorem d_O_refusal_11 : decode b_O_refusal 11 = .ok (.ldc 47, 2) := by decide +kernel
theorem d_O_refusal_13 : decode b_O_refusal 13 = .ok (.ireturn, 1) := by decide +kernel
theorem d_O_refusal_14 : decode b_O_refusal 14 = .ok (.iload_n 2, 1) := by decide +kernel
theorem d_O_refusal_15 : decode b_O_refusal 15 = .ok (.ifCond .ne 6, 3) := by decide +kernel
theorem d_O_refusal_18 : decode b_O_refusal 18 = .ok (.ldc 48, 2) := by decide +kernel
theorem d_O_refusal_20 : decode b_O_refusal 20 = .ok (.ireturn, 1) := by decide +kernel
theorem d_O_refusal_21 : decode b_O_refusal 21 = .ok (.aload_n 0, 1) := by decide +kernel
theorem d_O_refusal_22 : decode b_O_refusal 22 = .ok (.getfield 12, 3) := by decide +kernel
theorem d_O_refusal_25 : decode b_O_refusal 25 = .ok (.iload_n 1, 1) := by decide +kernel
theorem d_O_refusal_26 : decode b_O_refusal 26 = .ok (.invokevirtual 109, 3) := by decide +kernel
theorem d_O_refusal_29 : decode b_O_refusal 29 = .ok (.ifCond .eq 6, 3) := by decide +kernel
theorem d_O_refusal_32 : decode b_O_refusal 32 = .ok (.ldc 74, 2) := by decide +kernel
theorem d_O_refusal_34 : decode b_O_refusal 34 = .ok (.ireturn, 1) := by decide +kernel
theorem d_O_refusal_35 : decode b_O_refusal 35 = .ok (.iconst 0, 1) := by decide +kernel
theorem d_O_refusal_36 : decode b_O_refusal 36 = .ok (.ireturn, 1) := by decide +kernel
abbrev b_O_bending : ByteArray := prog_1_method_11_code
abbrev y_O_bending : MethodName := ⟨"OldBeams", "bending", "(II)J"⟩
theorem d_O_bending_0 : decode b_O_bending 0 = .ok (.aload_n 0, 1) := by decide +kernel
theorem d_O_bending_1 : decode b_O_bending 1 = .ok (.iload_n 1, 1) := by decide +kernel
theorem d_O_bending_2 : decode b_O_bending 2 = .ok (.aload_n 0, 1) := by decide +kernel
theorem d_O_bending_3 : decode b_O_bending 3 = .ok (.getfield 12, 3) := by decide +kernel
theorem d_O_bending_6 : decode b_O_bending 6 = .ok (.iload_n 1, 1) := by decide +kernel
theorem d_O_bending_7 : decode b_O_bending 7 = .ok (.iload_n 2, 1) := by decide +kernel
theorem d_O_bending_8 : decode b_O_bending 8 = .ok (.invokevirtual 69, 3) := by decide +kernel
theorem d_O_bending_11 : decode b_O_bending 11 = .ok (.invokevirtual 144, 3) := by decide +kernel
theorem d_O_bending_14 : decode b_O_bending 14 = .ok (.istore_n 3, 1) := by decide +kernel
theorem d_O_bending_15 : decode b_O_bending 15 = .ok (.iload_n 3, 1) := by decide +kernel
theorem d_O_bending_16 : decode b_O_bending 16 = .ok (.ifCond .eq 6, 3) := by decide +kernel
theorem d_O_bending_19 : decode b_O_bending 19 = .ok (.iload_n 3, 1) := by decide +kernel
theorem d_O_bending_20 : decode b_O_bending 20 = .ok (.i2l, 1) := by decide +kernel
theorem d_O_bending_21 : decode b_O_bending 21 = .ok (.lreturn, 1) := by decide +kernel
theorem d_O_bending_22 : decode b_O_bending 22 = .ok (.aload_n 0, 1) := by decide +kernel
theorem d_O_bending_23 : decode b_O_bending 23 = .ok (.getfield 12, 3) := by decide +kernel
theorem d_O_bending_26 : decode b_O_bending 26 = .ok (.invokevirtual 148, 3) := by decide +kernel
theorem d_O_bending_29 : decode b_O_bending 29 = .ok (.aload_n 0, 1) := by decide +kernel
theorem d_O_bending_30 : decode b_O_bending 30 = .ok (.getfield 12, 3) := by decide +kernel
theorem d_O_bending_33 : decode b_O_bending 33 = .ok (.getfield 75, 3) := by decide +kernel
theorem d_O_bending_36 : decode b_O_bending 36 = .ok (.iload_n 1, 1) := by decide +kernel
theorem d_O_bending_37 : decode b_O_bending 37 = .ok (.aaload, 1) := by decide +kernel
theorem d_O_bending_38 : decode b_O_bending 38 = .ok (.iload_n 2, 1) := by decide +kernel
theorem d_O_bending_39 : decode b_O_bending 39 = .ok (.invokevirtual 155, 3) := by decide +kernel
theorem d_O_bending_42 : decode b_O_bending 42 = .ok (.lreturn, 1) := by decide +kernel
abbrev b_O_greatest : ByteArray := prog_1_method_12_code
abbrev y_O_greatest : MethodName := ⟨"OldBeams", "greatest", "(IZ)J"⟩
theorem d_O_greatest_0 : decode b_O_greatest 0 = .ok (.aload_n 0, 1) := by decide +kernel
theorem d_O_greatest_1 : decode b_O_greatest 1 = .ok (.iload_n 1, 1) := by decide +kernel
theorem d_O_greatest_2 : decode b_O_greatest 2 = .ok (.iconst 1, 1) := by decide +kernel
theorem d_O_greatest_3 : decode b_O_greatest 3 = .ok (.invokevirtual 144, 3) := by decide +kernel
theorem d_O_greatest_6 : decode b_O_greatest 6 = .ok (.istore_n 3, 1) := by decide +kernel
theorem d_O_greatest_7 : decode b_O_greatest 7 = .ok (.iload_n 3, 1) := by decide +kernel
theorem d_O_greatest_8 : decode b_O_greatest 8 = .ok (.ifCond .eq 6, 3) := by decide +kernel
theorem d_O_greatest_11 : decode b_O_greatest 11 = .ok (.iload_n 3, 1) := by decide +kernel
theorem d_O_greatest_12 : decode b_O_greatest 12 = .ok (.i2l, 1) := by decide +kernel
theorem d_O_greatest_13 : decode b_O_greatest 13 = .ok (.lreturn, 1) := by decide +kernel
theorem d_O_greatest_14 : decode b_O_greatest 14 = .ok (.aload_n 0, 1) := by decide +kernel
theorem d_O_greatest_15 : decode b_O_greatest 15 = .ok (.getfield 12, 3) := by decide +kernel
theorem d_O_greatest_18 : decode b_O_greatest 18 = .ok (.invokevirtual 148, 3) := by decide +kernel
theorem d_O_greatest_21 : decode b_O_greatest 21 = .ok (.aload_n 0, 1) := by decide +kernel
theorem d_O_greatest_22 : decode b_O_greatest 22 = .ok (.getfield 12, 3) := by decide +kernel
theorem d_O_greatest_25 : decode b_O_greatest 25 = .ok (.getfield 75, 3) := by decide +kernel
theorem d_O_greatest_28 : decode b_O_greatest 28 = .ok (.iload_n 1, 1) := by decide +kernel
theorem d_O_greatest_29 : decode b_O_greatest 29 = .ok (.aaload, 1) := by decide +kernel
theorem d_O_greatest_30 : decode b_O_greatest 30 = .ok (.astore 4, 2) := by decide +kernel
theorem d_O_greatest_32 : decode b_O_greatest 32 = .ok (.iload_n 2, 1) := by decide +kernel
theorem d_O_greatest_33 : decode b_O_greatest 33 = .ok (.ifCond .eq 12, 3) := by decide +kernel
theorem d_O_greatest_36 : decode b_O_greatest 36 = .ok (.aload 4, 2) := by decide +kernel
theorem d_O_greatest_38 : decode b_O_greatest 38 = .ok (.getfield 159, 3) := by decide +kernel
theorem d_O_greatest_41 : decode b_O_greatest 41 = .ok (.i2l, 1) := by decide +kernel
theorem d_O_greatest_42 : decode b_O_greatest 42 = .ok (.goto 8, 3) := by decide +kernel
theorem d_O_greatest_45 : decode b_O_greatest 45 = .ok (.aload 4, 2) := by decide +kernel
theorem d_O_greatest_47 : decode b_O_greatest 47 = .ok (.getfield 162, 3) := by decide +kernel
theorem d_O_greatest_50 : decode b_O_greatest 50 = .ok (.lreturn, 1) := by decide +kernel
abbrev b_O_lifts : ByteArray := prog_1_method_13_code
abbrev y_O_lifts : MethodName := ⟨"OldBeams", "lifts", "(I)I"⟩
theorem d_O_lifts_0 : decode b_O_lifts 0 = .ok (.aload_n 0, 1) := by decide +kernel
theorem d_O_lifts_1 : decode b_O_lifts 1 = .ok (.iload_n 1, 1) := by decide +kernel
theorem d_O_lifts_2 : decode b_O_lifts 2 = .ok (.iconst 1, 1) := by decide +kernel
theorem d_O_lifts_3 : decode b_O_lifts 3 = .ok (.invokevirtual 144, 3) := by decide +kernel
theorem d_O_lifts_6 : decode b_O_lifts 6 = .ok (.istore_n 2, 1) := by decide +kernel
theorem d_O_lifts_7 : decode b_O_lifts 7 = .ok (.iload_n 2, 1) := by decide +kernel
theorem d_O_lifts_8 : decode b_O_lifts 8 = .ok (.ifCond .eq 5, 3) := by decide +kernel
theorem d_O_lifts_11 : decode b_O_lifts 11 = .ok (.iload_n 2, 1) := by decide +kernel
theorem d_O_lifts_12 : decode b_O_lifts 12 = .ok (.ireturn, 1) := by decide +kernel
theorem d_O_lifts_13 : decode b_O_lifts 13 = .ok (.aload_n 0, 1) := by decide +kernel
theorem d_O_lifts_14 : decode b_O_lifts 14 = .ok (.getfield 12, 3) := by decide +kernel
theorem d_O_lifts_17 : decode b_O_lifts 17 = .ok (.invokevirtual 148, 3) := by decide +kernel
theorem d_O_lifts_20 : decode b_O_lifts 20 = .ok (.aload_n 0, 1) := by decide +kernel
theorem d_O_lifts_21 : decode b_O_lifts 21 = .ok (.getfield 12, 3) := by decide +kernel
theorem d_O_lifts_24 : decode b_O_lifts 24 = .ok (.getfield 75, 3) := by decide +kernel
theorem d_O_lifts_27 : decode b_O_lifts 27 = .ok (.iload_n 1, 1) := by decide +kernel
theorem d_O_lifts_28 : decode b_O_lifts 28 = .ok (.aaload, 1) := by decide +kernel
theorem d_O_lifts_29 : decode b_O_lifts 29 = .ok (.invokevirtual 166, 3) := by decide +kernel
theorem d_O_lifts_32 : decode b_O_lifts 32 = .ok (.invokestatic 105, 3) := by decide +kernel
theorem d_O_lifts_35 : decode b_O_lifts 35 = .ok (.ireturn, 1) := by decide +kernel
abbrev b_O_holds : ByteArray := prog_1_method_14_code
abbrev y_O_holds : MethodName := ⟨"OldBeams", "holds", "(II)I"⟩
theorem d_O_holds_0 : decode b_O_holds 0 = .ok (.aload_n 0, 1) := by decide +kernel
theorem d_O_holds_1 : decode b_O_holds 1 = .ok (.iload_n 1, 1) := by decide +kernel
theorem d_O_holds_2 : decode b_O_holds 2 = .ok (.iload_n 2, 1) := by decide +kernel
theorem d_O_holds_3 : decode b_O_holds 3 = .ok (.iconst 0, 1) := by decide +kernel
theorem d_O_holds_4 : decode b_O_holds 4 = .ok (.bipush 10, 2) := by decide +kernel
theorem d_O_holds_6 : decode b_O_holds 6 = .ok (.invokestatic 43, 3) := by decide +kernel
theorem d_O_holds_9 : decode b_O_holds 9 = .ok (.invokevirtual 144, 3) := by decide +kernel
theorem d_O_holds_12 : decode b_O_holds 12 = .ok (.istore_n 3, 1) := by decide +kernel
theorem d_O_holds_13 : decode b_O_holds 13 = .ok (.iload_n 3, 1) := by decide +kernel
theorem d_O_holds_14 : decode b_O_holds 14 = .ok (.ifCond .eq 5, 3) := by decide +kernel
theorem d_O_holds_17 : decode b_O_holds 17 = .ok (.iload_n 3, 1) := by decide +kernel
theorem d_O_holds_18 : decode b_O_holds 18 = .ok (.ireturn, 1) := by decide +kernel
theorem d_O_holds_19 : decode b_O_holds 19 = .ok (.aload_n 0, 1) := by decide +kernel
theorem d_O_holds_20 : decode b_O_holds 20 = .ok (.getfield 12, 3) := by decide +kernel
theorem d_O_holds_23 : decode b_O_holds 23 = .ok (.invokevirtual 148, 3) := by decide +kernel
theorem d_O_holds_26 : decode b_O_holds 26 = .ok (.aload_n 0, 1) := by decide +kernel
theorem d_O_holds_27 : decode b_O_holds 27 = .ok (.getfield 12, 3) := by decide +kernel
theorem d_O_holds_30 : decode b_O_holds 30 = .ok (.iload_n 1, 1) := by decide +kernel
theorem d_O_holds_31 : decode b_O_holds 31 = .ok (.iload_n 2, 1) := by decide +kernel
theorem d_O_holds_32 : decode b_O_holds 32 = .ok (.invokevirtual 170, 3) := by decide +kernel
theorem d_O_holds_35 : decode b_O_holds 35 = .ok (.invokestatic 105, 3) := by decide +kernel
theorem d_O_holds_38 : decode b_O_holds 38 = .ok (.ireturn, 1) := by decide +kernel
abbrev b_O_needs : ByteArray := prog_1_method_15_code
abbrev y_O_needs : MethodName := ⟨"OldBeams", "needs", "(I)I"⟩
theorem d_O_needs_0 : decode b_O_needs 0 = .ok (.aload_n 0, 1) := by decide +kernel
theorem d_O_needs_1 : decode b_O_needs 1 = .ok (.iload_n 1, 1) := by decide +kernel
theorem d_O_needs_2 : decode b_O_needs 2 = .ok (.iconst 1, 1) := by decide +kernel
theorem d_O_needs_3 : decode b_O_needs 3 = .ok (.invokevirtual 144, 3) := by decide +kernel
theorem d_O_needs_6 : decode b_O_needs 6 = .ok (.istore_n 2, 1) := by decide +kernel
theorem d_O_needs_7 : decode b_O_needs 7 = .ok (.iload_n 2, 1) := by decide +kernel
theorem d_O_needs_8 : decode b_O_needs 8 = .ok (.ifCond .eq 5, 3) := by decide +kernel
theorem d_O_needs_11 : decode b_O_needs 11 = .ok (.iload_n 2, 1) := by decide +kernel
theorem d_O_needs_12 : decode b_O_needs 12 = .ok (.ireturn, 1) := by decide +kernel
theorem d_O_needs_13 : decode b_O_needs 13 = .ok (.aload_n 0, 1) := by decide +kernel
theorem d_O_needs_14 : decode b_O_needs 14 = .ok (.getfield 12, 3) := by decide +kernel
theorem d_O_needs_17 : decode b_O_needs 17 = .ok (.invokevirtual 148, 3) := by decide +kernel
theorem d_O_needs_20 : decode b_O_needs 20 = .ok (.iconst 0, 1) := by decide +kernel
theorem d_O_needs_21 : decode b_O_needs 21 = .ok (.istore_n 3, 1) := by decide +kernel
theorem d_O_needs_22 : decode b_O_needs 22 = .ok (.iload_n 3, 1) := by decide +kernel
theorem d_O_needs_23 : decode b_O_needs 23 = .ok (.bipush 11, 2) := by decide +kernel
theorem d_O_needs_25 : decode b_O_needs 25 = .ok (.if_icmp .ge 23, 3) := by decide +kernel
theorem d_O_needs_28 : decode b_O_needs 28 = .ok (.aload_n 0, 1) := by decide +kernel
theorem d_O_needs_29 : decode b_O_needs 29 = .ok (.getfield 12, 3) := by decide +kernel
theorem d_O_needs_32 : decode b_O_needs 32 = .ok (.iload_n 1, 1) := by decide +kernel
theorem d_O_needs_33 : decode b_O_needs 33 = .ok (.iload_n 3, 1) := by decide +kernel
theorem d_O_needs_34 : decode b_O_needs 34 = .ok (.invokevirtual 170, 3) := by decide +kernel
theorem d_O_needs_37 : decode b_O_needs 37 = .ok (.ifCond .eq 5, 3) := by decide +kernel
theorem d_O_needs_40 : decode b_O_needs 40 = .ok (.iload_n 3, 1) := by decide +kernel
theorem d_O_needs_41 : decode b_O_needs 41 = .ok (.ireturn, 1) := by decide +kernel
theorem d_O_needs_42 : decode b_O_needs 42 = .ok (.iinc 3 1, 3) := by decide +kernel
theorem d_O_needs_45 : decode b_O_needs 45 = .ok (.goto (-23), 3) := by decide +kernel
theorem d_O_needs_48 : decode b_O_needs 48 = .ok (.ldc 73, 2) := by decide +kernel
theorem d_O_needs_50 : decode b_O_needs 50 = .ok (.ireturn, 1) := by decide +kernel
abbrev b_O_weight : ByteArray := prog_1_method_16_code
abbrev y_O_weight : MethodName := ⟨"OldBeams", "weight", "(III)I"⟩
theorem d_O_weight_0 : decode b_O_weight 0 = .ok (.aload_n 0, 1) := by decide +kernel
theorem d_O_weight_1 : decode b_O_weight 1 = .ok (.getfield 12, 3) := by decide +kernel
theorem d_O_weight_4 : decode b_O_weight 4 = .ok (.iload_n 1, 1) := by decide +kernel
theorem d_O_weight_5 : decode b_O_weight 5 = .ok (.invokevirtual 66, 3) := by decide +kernel
theorem d_O_weight_8 : decode b_O_weight 8 = .ok (.ifCond .ne 6, 3) := by decide +kernel
theorem d_O_weight_11 : decode b_O_weight 11 = .ok (.ldc 47, 2) := by decide +kernel
theorem d_O_weight_13 : decode b_O_weight 13 = .ok (.ireturn, 1) := by decide +kernel
theorem d_O_weight_14 : decode b_O_weight 14 = .ok (.iload_n 2, 1) := by decide +kernel
theorem d_O_weight_15 : decode b_O_weight 15 = .ok (.iconst 0, 1) := by decide +kernel
theorem d_O_weight_16 : decode b_O_weight 16 = .ok (.bipush 10, 2) := by decide +kernel
theorem d_O_weight_18 : decode b_O_weight 18 = .ok (.invokestatic 43, 3) := by decide +kernel
theorem d_O_weight_21 : decode b_O_weight 21 = .ok (.ifCond .eq 13, 3) := by decide +kernel
theorem d_O_weight_24 : decode b_O_weight 24 = .ok (.iload_n 3, 1) := by decide +kernel
theorem d_O_weight_25 : decode b_O_weight 25 = .ok (.iconst 0, 1) := by decide +kernel
theorem d_O_weight_26 : decode b_O_weight 26 = .ok (.bipush 99, 2) := by decide +kernel
theorem d_O_weight_28 : decode b_O_weight 28 = .ok (.invokestatic 43, 3) := by decide +kernel
theorem d_O_weight_31 : decode b_O_weight 31 = .ok (.ifCond .ne 6, 3) := by decide +kernel
theorem d_O_weight_34 : decode b_O_weight 34 = .ok (.ldc 48, 2) := by decide +kernel
theorem d_O_weight_36 : decode b_O_weight 36 = .ok (.ireturn, 1) := by decide +kernel
theorem d_O_weight_37 : decode b_O_weight 37 = .ok (.aload_n 0, 1) := by decide +kernel
theorem d_O_weight_38 : decode b_O_weight 38 = .ok (.getfield 19, 3) := by decide +kernel
theorem d_O_weight_41 : decode b_O_weight 41 = .ok (.iload_n 1, 1) := by decide +kernel
theorem d_O_weight_42 : decode b_O_weight 42 = .ok (.invokevirtual 173, 3) := by decide +kernel
theorem d_O_weight_45 : decode b_O_weight 45 = .ok (.ifCond .gt 16, 3) := by decide +kernel
theorem d_O_weight_48 : decode b_O_weight 48 = .ok (.aload_n 0, 1) := by decide +kernel
theorem d_O_weight_49 : decode b_O_weight 49 = .ok (.getfield 19, 3) := by decide +kernel
theorem d_O_weight_52 : decode b_O_weight 52 = .ok (.iload_n 1, 1) := by decide +kernel
theorem d_O_weight_53 : decode b_O_weight 53 = .ok (.iload_n 2, 1) := by decide +kernel
theorem d_O_weight_54 : decode b_O_weight 54 = .ok (.iload_n 3, 1) := by decide +kernel
theorem d_O_weight_55 : decode b_O_weight 55 = .ok (.invokevirtual 176, 3) := by decide +kernel
theorem d_O_weight_58 : decode b_O_weight 58 = .ok (.ifCond .ne 6, 3) := by decide +kernel
theorem d_O_weight_61 : decode b_O_weight 61 = .ok (.ldc 74, 2) := by decide +kernel
theorem d_O_weight_63 : decode b_O_weight 63 = .ok (.ireturn, 1) := by decide +kernel
theorem d_O_weight_64 : decode b_O_weight 64 = .ok (.aload_n 0, 1) := by decide +kernel
theorem d_O_weight_65 : decode b_O_weight 65 = .ok (.getfield 19, 3) := by decide +kernel
theorem d_O_weight_68 : decode b_O_weight 68 = .ok (.getfield 179, 3) := by decide +kernel
theorem d_O_weight_71 : decode b_O_weight 71 = .ok (.iload_n 1, 1) := by decide +kernel
theorem d_O_weight_72 : decode b_O_weight 72 = .ok (.aaload, 1) := by decide +kernel
theorem d_O_weight_73 : decode b_O_weight 73 = .ok (.iload_n 2, 1) := by decide +kernel
theorem d_O_weight_74 : decode b_O_weight 74 = .ok (.iaload, 1) := by decide +kernel
theorem d_O_weight_75 : decode b_O_weight 75 = .ok (.istore 4, 2) := by decide +kernel
theorem d_O_weight_77 : decode b_O_weight 77 = .ok (.aload_n 0, 1) := by decide +kernel
theorem d_O_weight_78 : decode b_O_weight 78 = .ok (.getfield 19, 3) := by decide +kernel
theorem d_O_weight_81 : decode b_O_weight 81 = .ok (.getfield 179, 3) := by decide +kernel
theorem d_O_weight_84 : decode b_O_weight 84 = .ok (.iload_n 1, 1) := by decide +kernel
theorem d_O_weight_85 : decode b_O_weight 85 = .ok (.aaload, 1) := by decide +kernel
theorem d_O_weight_86 : decode b_O_weight 86 = .ok (.iload_n 2, 1) := by decide +kernel
theorem d_O_weight_87 : decode b_O_weight 87 = .ok (.iload_n 3, 1) := by decide +kernel
theorem d_O_weight_88 : decode b_O_weight 88 = .ok (.iastore, 1) := by decide +kernel
theorem d_O_weight_89 : decode b_O_weight 89 = .ok (.iload 4, 2) := by decide +kernel
theorem d_O_weight_91 : decode b_O_weight 91 = .ok (.ireturn, 1) := by decide +kernel
abbrev b_O_tool : ByteArray := prog_1_method_17_code
abbrev y_O_tool : MethodName := ⟨"OldBeams", "tool", "(III)I"⟩
theorem d_O_tool_0 : decode b_O_tool 0 = .ok (.iload_n 1, 1) := by decide +kernel
theorem d_O_tool_1 : decode b_O_tool 1 = .ok (.invokestatic 182, 3) := by decide +kernel
theorem d_O_tool_4 : decode b_O_tool 4 = .ok (.ifCond .ne 6, 3) := by decide +kernel
theorem d_O_tool_7 : decode b_O_tool 7 = .ok (.ldc 47, 2) := by decide +kernel
theorem d_O_tool_9 : decode b_O_tool 9 = .ok (.ireturn, 1) := by decide +kernel
theorem d_O_tool_10 : decode b_O_tool 10 = .ok (.iload_n 2, 1) := by decide +kernel
theorem d_O_tool_11 : decode b_O_tool 11 = .ok (.iconst 0, 1) := by decide +kernel
theorem d_O_tool_12 : decode b_O_tool 12 = .ok (.bipush 10, 2) := by decide +kernel
theorem d_O_tool_14 : decode b_O_tool 14 = .ok (.invokestatic 43, 3) := by decide +kernel
theorem d_O_tool_17 : decode b_O_tool 17 = .ok (.ifCond .eq 13, 3) := by decide +kernel
theorem d_O_tool_20 : decode b_O_tool 20 = .ok (.iload_n 3, 1) := by decide +kernel
theorem d_O_tool_21 : decode b_O_tool 21 = .ok (.iconst 0, 1) := by decide +kernel
theorem d_O_tool_22 : decode b_O_tool 22 = .ok (.bipush 9, 2) := by decide +kernel
theorem d_O_tool_24 : decode b_O_tool 24 = .ok (.invokestatic 43, 3) := by decide +kernel
theorem d_O_tool_27 : decode b_O_tool 27 = .ok (.ifCond .ne 6, 3) := by decide +kernel
theorem d_O_tool_30 : decode b_O_tool 30 = .ok (.ldc 48, 2) := by decide +kernel
theorem d_O_tool_32 : decode b_O_tool 32 = .ok (.ireturn, 1) := by decide +kernel
theorem d_O_tool_33 : decode b_O_tool 33 = .ok (.aload_n 0, 1) := by decide +kernel
theorem d_O_tool_34 : decode b_O_tool 34 = .ok (.getfield 19, 3) := by decide +kernel
theorem d_O_tool_37 : decode b_O_tool 37 = .ok (.iload_n 1, 1) := by decide +kernel
theorem d_O_tool_38 : decode b_O_tool 38 = .ok (.invokevirtual 185, 3) := by decide +kernel
theorem d_O_tool_41 : decode b_O_tool 41 = .ok (.ifCond .eq 6, 3) := by decide +kernel
theorem d_O_tool_44 : decode b_O_tool 44 = .ok (.ldc 74, 2) := by decide +kernel
theorem d_O_tool_46 : decode b_O_tool 46 = .ok (.ireturn, 1) := by decide +kernel
theorem d_O_tool_47 : decode b_O_tool 47 = .ok (.aload_n 0, 1) := by decide +kernel
theorem d_O_tool_48 : decode b_O_tool 48 = .ok (.getfield 19, 3) := by decide +kernel
theorem d_O_tool_51 : decode b_O_tool 51 = .ok (.getfield 188, 3) := by decide +kernel
theorem d_O_tool_54 : decode b_O_tool 54 = .ok (.iload_n 1, 1) := by decide +kernel
theorem d_O_tool_55 : decode b_O_tool 55 = .ok (.aaload, 1) := by decide +kernel
theorem d_O_tool_56 : decode b_O_tool 56 = .ok (.iload_n 2, 1) := by decide +kernel
theorem d_O_tool_57 : decode b_O_tool 57 = .ok (.iaload, 1) := by decide +kernel
theorem d_O_tool_58 : decode b_O_tool 58 = .ok (.istore 4, 2) := by decide +kernel
theorem d_O_tool_60 : decode b_O_tool 60 = .ok (.aload_n 0, 1) := by decide +kernel
theorem d_O_tool_61 : decode b_O_tool 61 = .ok (.getfield 19, 3) := by decide +kernel
theorem d_O_tool_64 : decode b_O_tool 64 = .ok (.getfield 188, 3) := by decide +kernel
theorem d_O_tool_67 : decode b_O_tool 67 = .ok (.iload_n 1, 1) := by decide +kernel
theorem d_O_tool_68 : decode b_O_tool 68 = .ok (.aaload, 1) := by decide +kernel
theorem d_O_tool_69 : decode b_O_tool 69 = .ok (.iload_n 2, 1) := by decide +kernel
theorem d_O_tool_70 : decode b_O_tool 70 = .ok (.iload_n 3, 1) := by decide +kernel
theorem d_O_tool_71 : decode b_O_tool 71 = .ok (.iastore, 1) := by decide +kernel
theorem d_O_tool_72 : decode b_O_tool 72 = .ok (.iload 4, 2) := by decide +kernel
theorem d_O_tool_74 : decode b_O_tool 74 = .ok (.ireturn, 1) := by decide +kernel
abbrev b_O_isTool : ByteArray := prog_1_method_40_code
abbrev y_O_isTool : MethodName := ⟨"OldBeams", "isTool", "(I)Z"⟩
theorem d_O_isTool_0 : decode b_O_isTool 0 = .ok (.iload_n 0, 1) := by decide +kernel
theorem d_O_isTool_1 : decode b_O_isTool 1 = .ok (.iconst 0, 1) := by decide +kernel
theorem d_O_isTool_2 : decode b_O_isTool 2 = .ok (.iconst 3, 1) := by decide +kernel
theorem d_O_isTool_3 : decode b_O_isTool 3 = .ok (.invokestatic 43, 3) := by decide +kernel
theorem d_O_isTool_6 : decode b_O_isTool 6 = .ok (.ireturn, 1) := by decide +kernel
abbrev b_O_look : ByteArray := prog_1_method_18_code
abbrev y_O_look : MethodName := ⟨"OldBeams", "look", "(IIII)I"⟩
theorem d_O_look_0 : decode b_O_look 0 = .ok (.aload_n 0, 1) := by decide +kernel
theorem d_O_look_1 : decode b_O_look 1 = .ok (.getfield 12, 3) := by decide +kernel
theorem d_O_look_4 : decode b_O_look 4 = .ok (.iload_n 1, 1) := by decide +kernel
theorem d_O_look_5 : decode b_O_look 5 = .ok (.invokevirtual 66, 3) := by decide +kernel
theorem d_O_look_8 : decode b_O_look 8 = .ok (.ifCond .eq 10, 3) := by decide +kernel
theorem d_O_look_11 : decode b_O_look 11 = .ok (.iload_n 2, 1) := by decide +kernel
theorem d_O_look_12 : decode b_O_look 12 = .ok (.invokestatic 182, 3) := by decide +kernel
theorem d_O_look_15 : decode b_O_look 15 = .ok (.ifCond .ne 6, 3) := by decide +kernel
theorem d_O_look_18 : decode b_O_look 18 = .ok (.ldc 47, 2) := by decide +kernel
theorem d_O_look_20 : decode b_O_look 20 = .ok (.ireturn, 1) := by decide +kernel
theorem d_O_look_21 : decode b_O_look 21 = .ok (.iload_n 3, 1) := by decide +kernel
theorem d_O_look_22 : decode b_O_look 22 = .ok (.iconst 0, 1) := by decide +kernel
theorem d_O_look_23 : decode b_O_look 23 = .ok (.iconst 1, 1) := by decide +kernel
theorem d_O_look_24 : decode b_O_look 24 = .ok (.invokestatic 43, 3) := by decide +kernel
theorem d_O_look_27 : decode b_O_look 27 = .ok (.ifCond .eq 11, 3) := by decide +kernel
theorem d_O_look_30 : decode b_O_look 30 = .ok (.iload 4, 2) := by decide +kernel
theorem d_O_look_32 : decode b_O_look 32 = .ok (.invokestatic 53, 3) := by decide +kernel
theorem d_O_look_35 : decode b_O_look 35 = .ok (.ifCond .ne 6, 3) := by decide +kernel
theorem d_O_look_38 : decode b_O_look 38 = .ok (.ldc 48, 2) := by decide +kernel
theorem d_O_look_40 : decode b_O_look 40 = .ok (.ireturn, 1) := by decide +kernel
theorem d_O_look_41 : decode b_O_look 41 = .ok (.iload 4, 2) := by decide +kernel
theorem d_O_look_43 : decode b_O_look 43 = .ok (.aload_n 0, 1) := by decide +kernel
theorem d_O_look_44 : decode b_O_look 44 = .ok (.getfield 19, 3) := by decide +kernel
theorem d_O_look_47 : decode b_O_look 47 = .ok (.invokevirtual 191, 3) := by decide +kernel
theorem d_O_look_50 : decode b_O_look 50 = .ok (.if_icmp .ge 6, 3) := by decide +kernel
theorem d_O_look_53 : decode b_O_look 53 = .ok (.ldc 74, 2) := by decide +kernel
theorem d_O_look_55 : decode b_O_look 55 = .ok (.ireturn, 1) := by decide +kernel
theorem d_O_look_56 : decode b_O_look 56 = .ok (.aload_n 0, 1) := by decide +kernel
theorem d_O_look_57 : decode b_O_look 57 = .ok (.getfield 19, 3) := by decide +kernel
theorem d_O_look_60 : decode b_O_look 60 = .ok (.getfield 195, 3) := by decide +kernel
theorem d_O_look_63 : decode b_O_look 63 = .ok (.bipush 60, 2) := by decide +kernel
theorem d_O_look_65 : decode b_O_look 65 = .ok (.if_icmp .ge 16, 3) := by decide +kernel
theorem d_O_look_68 : decode b_O_look 68 = .ok (.aload_n 0, 1) := by decide +kernel
theorem d_O_look_69 : decode b_O_look 69 = .ok (.getfield 19, 3) := by decide +kernel
theorem d_O_look_72 : decode b_O_look 72 = .ok (.iload_n 1, 1) := by decide +kernel
theorem d_O_look_73 : decode b_O_look 73 = .ok (.invokevirtual 173, 3) := by decide +kernel
theorem d_O_look_76 : decode b_O_look 76 = .ok (.bipush 8, 2) := by decide +kernel
theorem d_O_look_78 : decode b_O_look 78 = .ok (.if_icmp .lt 6, 3) := by decide +kernel
theorem d_O_look_81 : decode b_O_look 81 = .ok (.ldc 61, 2) := by decide +kernel
theorem d_O_look_83 : decode b_O_look 83 = .ok (.ireturn, 1) := by decide +kernel
theorem d_O_look_84 : decode b_O_look 84 = .ok (.aload_n 0, 1) := by decide +kernel
theorem d_O_look_85 : decode b_O_look 85 = .ok (.getfield 19, 3) := by decide +kernel
theorem d_O_look_88 : decode b_O_look 88 = .ok (.iload_n 1, 1) := by decide +kernel
theorem d_O_look_89 : decode b_O_look 89 = .ok (.iload_n 2, 1) := by decide +kernel
theorem d_O_look_90 : decode b_O_look 90 = .ok (.iload_n 3, 1) := by decide +kernel
theorem d_O_look_91 : decode b_O_look 91 = .ok (.iload 4, 2) := by decide +kernel
theorem d_O_look_93 : decode b_O_look 93 = .ok (.invokevirtual 198, 3) := by decide +kernel
theorem d_O_look_96 : decode b_O_look 96 = .ok (.ireturn, 1) := by decide +kernel
abbrev b_O_odds : ByteArray := prog_1_method_19_code
abbrev y_O_odds : MethodName := ⟨"OldBeams", "odds", "(III)J"⟩
theorem d_O_odds_0 : decode b_O_odds 0 = .ok (.aload_n 0, 1) := by decide +kernel
theorem d_O_odds_1 : decode b_O_odds 1 = .ok (.getfield 12, 3) := by decide +kernel
theorem d_O_odds_4 : decode b_O_odds 4 = .ok (.iload_n 1, 1) := by decide +kernel
theorem d_O_odds_5 : decode b_O_odds 5 = .ok (.invokevirtual 66, 3) := by decide +kernel
theorem d_O_odds_8 : decode b_O_odds 8 = .ok (.ifCond .ne 7, 3) := by decide +kernel
theorem d_O_odds_11 : decode b_O_odds 11 = .ok (.ldc2_w 201, 3) := by decide +kernel
theorem d_O_odds_14 : decode b_O_odds 14 = .ok (.lreturn, 1) := by decide +kernel
theorem d_O_odds_15 : decode b_O_odds 15 = .ok (.iload_n 2, 1) := by decide +kernel
theorem d_O_odds_16 : decode b_O_odds 16 = .ok (.iconst 0, 1) := by decide +kernel
theorem d_O_odds_17 : decode b_O_odds 17 = .ok (.bipush 10, 2) := by decide +kernel
theorem d_O_odds_19 : decode b_O_odds 19 = .ok (.invokestatic 43, 3) := by decide +kernel
theorem d_O_odds_22 : decode b_O_odds 22 = .ok (.ifCond .eq 10, 3) := by decide +kernel
theorem d_O_odds_25 : decode b_O_odds 25 = .ok (.iload_n 3, 1) := by decide +kernel
theorem d_O_odds_26 : decode b_O_odds 26 = .ok (.invokestatic 53, 3) := by decide +kernel
theorem d_O_odds_29 : decode b_O_odds 29 = .ok (.ifCond .ne 7, 3) := by decide +kernel
theorem d_O_odds_32 : decode b_O_odds 32 = .ok (.ldc2_w 203, 3) := by decide +kernel
theorem d_O_odds_35 : decode b_O_odds 35 = .ok (.lreturn, 1) := by decide +kernel
theorem d_O_odds_36 : decode b_O_odds 36 = .ok (.aload_n 0, 1) := by decide +kernel
theorem d_O_odds_37 : decode b_O_odds 37 = .ok (.getfield 19, 3) := by decide +kernel
theorem d_O_odds_40 : decode b_O_odds 40 = .ok (.iload_n 1, 1) := by decide +kernel
theorem d_O_odds_41 : decode b_O_odds 41 = .ok (.iload_n 3, 1) := by decide +kernel
theorem d_O_odds_42 : decode b_O_odds 42 = .ok (.invokevirtual 205, 3) := by decide +kernel
theorem d_O_odds_45 : decode b_O_odds 45 = .ok (.pop, 1) := by decide +kernel
theorem d_O_odds_46 : decode b_O_odds 46 = .ok (.aload_n 0, 1) := by decide +kernel
theorem d_O_odds_47 : decode b_O_odds 47 = .ok (.getfield 19, 3) := by decide +kernel
theorem d_O_odds_50 : decode b_O_odds 50 = .ok (.getfield 209, 3) := by decide +kernel
theorem d_O_odds_53 : decode b_O_odds 53 = .ok (.iload_n 2, 1) := by decide +kernel
theorem d_O_odds_54 : decode b_O_odds 54 = .ok (.laload, 1) := by decide +kernel
theorem d_O_odds_55 : decode b_O_odds 55 = .ok (.lreturn, 1) := by decide +kernel
abbrev b_O_quarrel : ByteArray := prog_1_method_20_code
abbrev y_O_quarrel : MethodName := ⟨"OldBeams", "quarrel", "(II)I"⟩
theorem d_O_quarrel_0 : decode b_O_quarrel 0 = .ok (.aload_n 0, 1) := by decide +kernel
theorem d_O_quarrel_1 : decode b_O_quarrel 1 = .ok (.getfield 12, 3) := by decide +kernel
theorem d_O_quarrel_4 : decode b_O_quarrel 4 = .ok (.iload_n 1, 1) := by decide +kernel
theorem d_O_quarrel_5 : decode b_O_quarrel 5 = .ok (.invokevirtual 66, 3) := by decide +kernel
theorem d_O_quarrel_8 : decode b_O_quarrel 8 = .ok (.ifCond .ne 6, 3) := by decide +kernel
theorem d_O_quarrel_11 : decode b_O_quarrel 11 = .ok (.ldc 47, 2) := by decide +kernel
theorem d_O_quarrel_13 : decode b_O_quarrel 13 = .ok (.ireturn, 1) := by decide +kernel
theorem d_O_quarrel_14 : decode b_O_quarrel 14 = .ok (.iload_n 2, 1) := by decide +kernel
theorem d_O_quarrel_15 : decode b_O_quarrel 15 = .ok (.invokestatic 53, 3) := by decide +kernel
theorem d_O_quarrel_18 : decode b_O_quarrel 18 = .ok (.ifCond .ne 6, 3) := by decide +kernel
theorem d_O_quarrel_21 : decode b_O_quarrel 21 = .ok (.ldc 48, 2) := by decide +kernel
theorem d_O_quarrel_23 : decode b_O_quarrel 23 = .ok (.ireturn, 1) := by decide +kernel
theorem d_O_quarrel_24 : decode b_O_quarrel 24 = .ok (.aload_n 0, 1) := by decide +kernel
theorem d_O_quarrel_25 : decode b_O_quarrel 25 = .ok (.getfield 19, 3) := by decide +kernel
theorem d_O_quarrel_28 : decode b_O_quarrel 28 = .ok (.iload_n 1, 1) := by decide +kernel
theorem d_O_quarrel_29 : decode b_O_quarrel 29 = .ok (.iload_n 2, 1) := by decide +kernel
theorem d_O_quarrel_30 : decode b_O_quarrel 30 = .ok (.invokevirtual 205, 3) := by decide +kernel
theorem d_O_quarrel_33 : decode b_O_quarrel 33 = .ok (.ireturn, 1) := by decide +kernel
abbrev b_O_share : ByteArray := prog_1_method_21_code
abbrev y_O_share : MethodName := ⟨"OldBeams", "share", "(IIIZ)I"⟩
theorem d_O_share_0 : decode b_O_share 0 = .ok (.aload_n 0, 1) := by decide +kernel
theorem d_O_share_1 : decode b_O_share 1 = .ok (.getfield 12, 3) := by decide +kernel
theorem d_O_share_4 : decode b_O_share 4 = .ok (.iload_n 1, 1) := by decide +kernel
theorem d_O_share_5 : decode b_O_share 5 = .ok (.invokevirtual 66, 3) := by decide +kernel
theorem d_O_share_8 : decode b_O_share 8 = .ok (.ifCond .ne 6, 3) := by decide +kernel
theorem d_O_share_11 : decode b_O_share 11 = .ok (.ldc 47, 2) := by decide +kernel
theorem d_O_share_13 : decode b_O_share 13 = .ok (.ireturn, 1) := by decide +kernel
theorem d_O_share_14 : decode b_O_share 14 = .ok (.iload_n 2, 1) := by decide +kernel
theorem d_O_share_15 : decode b_O_share 15 = .ok (.iload_n 3, 1) := by decide +kernel
theorem d_O_share_16 : decode b_O_share 16 = .ok (.invokestatic 212, 3) := by decide +kernel
theorem d_O_share_19 : decode b_O_share 19 = .ok (.ifCond .ne 6, 3) := by decide +kernel
theorem d_O_share_22 : decode b_O_share 22 = .ok (.ldc 48, 2) := by decide +kernel
theorem d_O_share_24 : decode b_O_share 24 = .ok (.ireturn, 1) := by decide +kernel
theorem d_O_share_25 : decode b_O_share 25 = .ok (.aload_n 0, 1) := by decide +kernel
theorem d_O_share_26 : decode b_O_share 26 = .ok (.getfield 12, 3) := by decide +kernel
theorem d_O_share_29 : decode b_O_share 29 = .ok (.iload_n 1, 1) := by decide +kernel
theorem d_O_share_30 : decode b_O_share 30 = .ok (.aload_n 0, 1) := by decide +kernel
theorem d_O_share_31 : decode b_O_share 31 = .ok (.getfield 19, 3) := by decide +kernel
theorem d_O_share_34 : decode b_O_share 34 = .ok (.iload_n 1, 1) := by decide +kernel
theorem d_O_share_35 : decode b_O_share 35 = .ok (.iload_n 2, 1) := by decide +kernel
theorem d_O_share_36 : decode b_O_share 36 = .ok (.iload 4, 2) := by decide +kernel
theorem d_O_share_38 : decode b_O_share 38 = .ok (.invokevirtual 215, 3) := by decide +kernel
theorem d_O_share_41 : decode b_O_share 41 = .ok (.iload_n 3, 1) := by decide +kernel
theorem d_O_share_42 : decode b_O_share 42 = .ok (.iload_n 2, 1) := by decide +kernel
theorem d_O_share_43 : decode b_O_share 43 = .ok (.isub, 1) := by decide +kernel
theorem d_O_share_44 : decode b_O_share 44 = .ok (.invokevirtual 219, 3) := by decide +kernel
theorem d_O_share_47 : decode b_O_share 47 = .ok (.ireturn, 1) := by decide +kernel
abbrev b_O_areYears : ByteArray := prog_1_method_39_code
abbrev y_O_areYears : MethodName := ⟨"OldBeams", "areYears", "(II)Z"⟩
theorem d_O_areYears_0 : decode b_O_areYears 0 = .ok (.iload_n 0, 1) := by decide +kernel
theorem d_O_areYears_1 : decode b_O_areYears 1 = .ok (.invokestatic 53, 3) := by decide +kernel
theorem d_O_areYears_4 : decode b_O_areYears 4 = .ok (.ifCond .eq 19, 3) := by decide +kernel
theorem d_O_areYears_7 : decode b_O_areYears 7 = .ok (.iload_n 1, 1) := by decide +kernel
theorem d_O_areYears_8 : decode b_O_areYears 8 = .ok (.invokestatic 53, 3) := by decide +kernel
theorem d_O_areYears_11 : decode b_O_areYears 11 = .ok (.ifCond .eq 12, 3) := by decide +kernel
theorem d_O_areYears_14 : decode b_O_areYears 14 = .ok (.iload_n 1, 1) := by decide +kernel
theorem d_O_areYears_15 : decode b_O_areYears 15 = .ok (.iload_n 0, 1) := by decide +kernel
theorem d_O_areYears_16 : decode b_O_areYears 16 = .ok (.if_icmp .lt 7, 3) := by decide +kernel
theorem d_O_areYears_19 : decode b_O_areYears 19 = .ok (.iconst 1, 1) := by decide +kernel
theorem d_O_areYears_20 : decode b_O_areYears 20 = .ok (.goto 4, 3) := by decide +kernel
theorem d_O_areYears_23 : decode b_O_areYears 23 = .ok (.iconst 0, 1) := by decide +kernel
theorem d_O_areYears_24 : decode b_O_areYears 24 = .ok (.ireturn, 1) := by decide +kernel
abbrev b_O_stands : ByteArray := prog_1_method_22_code
abbrev y_O_stands : MethodName := ⟨"OldBeams", "stands", "(IIZ)I"⟩
theorem d_O_stands_0 : decode b_O_stands 0 = .ok (.iload_n 1, 1) := by decide +kernel
theorem d_O_stands_1 : decode b_O_stands 1 = .ok (.iload_n 2, 1) := by decide +kernel
theorem d_O_stands_2 : decode b_O_stands 2 = .ok (.invokestatic 212, 3) := by decide +kernel
theorem d_O_stands_5 : decode b_O_stands 5 = .ok (.ifCond .ne 6, 3) := by decide +kernel
theorem d_O_stands_8 : decode b_O_stands 8 = .ok (.ldc 48, 2) := by decide +kernel
theorem d_O_stands_10 : decode b_O_stands 10 = .ok (.ireturn, 1) := by decide +kernel
theorem d_O_stands_11 : decode b_O_stands 11 = .ok (.aload_n 0, 1) := by decide +kernel
theorem d_O_stands_12 : decode b_O_stands 12 = .ok (.iload_n 1, 1) := by decide +kernel
theorem d_O_stands_13 : decode b_O_stands 13 = .ok (.iload_n 3, 1) := by decide +kernel
theorem d_O_stands_14 : decode b_O_stands 14 = .ok (.invokevirtual 222, 3) := by decide +kernel
theorem d_O_stands_17 : decode b_O_stands 17 = .ok (.aload_n 0, 1) := by decide +kernel
theorem d_O_stands_18 : decode b_O_stands 18 = .ok (.getfield 12, 3) := by decide +kernel
theorem d_O_stands_21 : decode b_O_stands 21 = .ok (.invokevirtual 148, 3) := by decide +kernel
theorem d_O_stands_24 : decode b_O_stands 24 = .ok (.aload_n 0, 1) := by decide +kernel
theorem d_O_stands_25 : decode b_O_stands 25 = .ok (.iload_n 2, 1) := by decide +kernel
theorem d_O_stands_26 : decode b_O_stands 26 = .ok (.iload_n 1, 1) := by decide +kernel
theorem d_O_stands_27 : decode b_O_stands 27 = .ok (.isub, 1) := by decide +kernel
theorem d_O_stands_28 : decode b_O_stands 28 = .ok (.invokevirtual 226, 3) := by decide +kernel
theorem d_O_stands_31 : decode b_O_stands 31 = .ok (.invokestatic 105, 3) := by decide +kernel
theorem d_O_stands_34 : decode b_O_stands 34 = .ok (.ireturn, 1) := by decide +kernel
abbrev b_O_takeShares : ByteArray := prog_1_method_44_code
abbrev y_O_takeShares : MethodName := ⟨"OldBeams", "takeShares", "(IZ)V"⟩
theorem d_O_takeShares_0 : decode b_O_takeShares 0 = .ok (.iconst 0, 1) := by decide +kernel
theorem d_O_takeShares_1 : decode b_O_takeShares 1 = .ok (.istore_n 3, 1) := by decide +kernel
theorem d_O_takeShares_2 : decode b_O_takeShares 2 = .ok (.iload_n 3, 1) := by decide +kernel
theorem d_O_takeShares_3 : decode b_O_takeShares 3 = .ok (.aload_n 0, 1) := by decide +kernel
theorem d_O_takeShares_4 : decode b_O_takeShares 4 = .ok (.getfield 12, 3) := by decide +kernel
theorem d_O_takeShares_7 : decode b_O_takeShares 7 = .ok (.getfield 57, 3) := by decide +kernel
theorem d_O_takeShares_10 : decode b_O_takeShares 10 = .ok (.if_icmp .ge 25, 3) := by decide +kernel
theorem d_O_takeShares_13 : decode b_O_takeShares 13 = .ok (.aload_n 0, 1) := by decide +kernel
theorem d_O_takeShares_14 : decode b_O_takeShares 14 = .ok (.getfield 37, 3) := by decide +kernel
theorem d_O_takeShares_17 : decode b_O_takeShares 17 = .ok (.iload_n 3, 1) := by decide +kernel
theorem d_O_takeShares_18 : decode b_O_takeShares 18 = .ok (.aload_n 0, 1) := by decide +kernel
theorem d_O_takeShares_19 : decode b_O_takeShares 19 = .ok (.getfield 19, 3) := by decide +kernel
theorem d_O_takeShares_22 : decode b_O_takeShares 22 = .ok (.iload_n 3, 1) := by decide +kernel
theorem d_O_takeShares_23 : decode b_O_takeShares 23 = .ok (.iload_n 1, 1) := by decide +kernel
theorem d_O_takeShares_24 : decode b_O_takeShares 24 = .ok (.iload_n 2, 1) := by decide +kernel
theorem d_O_takeShares_25 : decode b_O_takeShares 25 = .ok (.invokevirtual 215, 3) := by decide +kernel
theorem d_O_takeShares_28 : decode b_O_takeShares 28 = .ok (.iastore, 1) := by decide +kernel
theorem d_O_takeShares_29 : decode b_O_takeShares 29 = .ok (.iinc 3 1, 3) := by decide +kernel
theorem d_O_takeShares_32 : decode b_O_takeShares 32 = .ok (.goto (-30), 3) := by decide +kernel
theorem d_O_takeShares_35 : decode b_O_takeShares 35 = .ok (.return_, 1) := by decide +kernel
abbrev b_O_standsAfter : ByteArray := prog_1_method_45_code
abbrev y_O_standsAfter : MethodName := ⟨"OldBeams", "standsAfter", "(I)Z"⟩
theorem d_O_standsAfter_0 : decode b_O_standsAfter 0 = .ok (.aload_n 0, 1) := by decide +kernel
theorem d_O_standsAfter_1 : decode b_O_standsAfter 1 = .ok (.getfield 12, 3) := by decide +kernel
theorem d_O_standsAfter_4 : decode b_O_standsAfter 4 = .ok (.aload_n 0, 1) := by decide +kernel
theorem d_O_standsAfter_5 : decode b_O_standsAfter 5 = .ok (.getfield 12, 3) := by decide +kernel
theorem d_O_standsAfter_8 : decode b_O_standsAfter 8 = .ok (.getfield 130, 3) := by decide +kernel
theorem d_O_standsAfter_11 : decode b_O_standsAfter 11 = .ok (.invokevirtual 136, 3) := by decide +kernel
theorem d_O_standsAfter_14 : decode b_O_standsAfter 14 = .ok (.ifCond .eq 5, 3) := by decide +kernel
theorem d_O_standsAfter_17 : decode b_O_standsAfter 17 = .ok (.iconst 0, 1) := by decide +kernel
theorem d_O_standsAfter_18 : decode b_O_standsAfter 18 = .ok (.ireturn, 1) := by decide +kernel
theorem d_O_standsAfter_19 : decode b_O_standsAfter 19 = .ok (.iconst 0, 1) := by decide +kernel
theorem d_O_standsAfter_20 : decode b_O_standsAfter 20 = .ok (.istore_n 2, 1) := by decide +kernel
theorem d_O_standsAfter_21 : decode b_O_standsAfter 21 = .ok (.iload_n 2, 1) := by decide +kernel
theorem d_O_standsAfter_22 : decode b_O_standsAfter 22 = .ok (.aload_n 0, 1) := by decide +kernel
theorem d_O_standsAfter_23 : decode b_O_standsAfter 23 = .ok (.getfield 12, 3) := by decide +kernel
theorem d_O_standsAfter_26 : decode b_O_standsAfter 26 = .ok (.getfield 57, 3) := by decide +kernel
theorem d_O_standsAfter_29 : decode b_O_standsAfter 29 = .ok (.if_icmp .ge 37, 3) := by decide +kernel
theorem d_O_standsAfter_32 : decode b_O_standsAfter 32 = .ok (.aload_n 0, 1) := by decide +kernel
theorem d_O_standsAfter_33 : decode b_O_standsAfter 33 = .ok (.getfield 12, 3) := by decide +kernel
theorem d_O_standsAfter_36 : decode b_O_standsAfter 36 = .ok (.iload_n 2, 1) := by decide +kernel
theorem d_O_standsAfter_37 : decode b_O_standsAfter 37 = .ok (.aload_n 0, 1) := by decide +kernel
theorem d_O_standsAfter_38 : decode b_O_standsAfter 38 = .ok (.getfield 12, 3) := by decide +kernel
theorem d_O_standsAfter_41 : decode b_O_standsAfter 41 = .ok (.iload_n 2, 1) := by decide +kernel
theorem d_O_standsAfter_42 : decode b_O_standsAfter 42 = .ok (.aload_n 0, 1) := by decide +kernel
theorem d_O_standsAfter_43 : decode b_O_standsAfter 43 = .ok (.getfield 37, 3) := by decide +kernel
theorem d_O_standsAfter_46 : decode b_O_standsAfter 46 = .ok (.iload_n 2, 1) := by decide +kernel
theorem d_O_standsAfter_47 : decode b_O_standsAfter 47 = .ok (.iaload, 1) := by decide +kernel
theorem d_O_standsAfter_48 : decode b_O_standsAfter 48 = .ok (.iload_n 1, 1) := by decide +kernel
theorem d_O_standsAfter_49 : decode b_O_standsAfter 49 = .ok (.invokevirtual 219, 3) := by decide +kernel
theorem d_O_standsAfter_52 : decode b_O_standsAfter 52 = .ok (.invokevirtual 170, 3) := by decide +kernel
theorem d_O_standsAfter_55 : decode b_O_standsAfter 55 = .ok (.ifCond .ne 5, 3) := by decide +kernel
theorem d_O_standsAfter_58 : decode b_O_standsAfter 58 = .ok (.iconst 0, 1) := by decide +kernel
theorem d_O_standsAfter_59 : decode b_O_standsAfter 59 = .ok (.ireturn, 1) := by decide +kernel
theorem d_O_standsAfter_60 : decode b_O_standsAfter 60 = .ok (.iinc 2 1, 3) := by decide +kernel
theorem d_O_standsAfter_63 : decode b_O_standsAfter 63 = .ok (.goto (-42), 3) := by decide +kernel
theorem d_O_standsAfter_66 : decode b_O_standsAfter 66 = .ok (.iconst 1, 1) := by decide +kernel
theorem d_O_standsAfter_67 : decode b_O_standsAfter 67 = .ok (.ireturn, 1) := by decide +kernel
abbrev b_O_until : ByteArray := prog_1_method_23_code
abbrev y_O_until : MethodName := ⟨"OldBeams", "until", "(IZ)I"⟩
theorem d_O_until_0 : decode b_O_until 0 = .ok (.iload_n 1, 1) := by decide +kernel
theorem d_O_until_1 : decode b_O_until 1 = .ok (.invokestatic 53, 3) := by decide +kernel
theorem d_O_until_4 : decode b_O_until 4 = .ok (.ifCond .ne 6, 3) := by decide +kernel
theorem d_O_until_7 : decode b_O_until 7 = .ok (.ldc 48, 2) := by decide +kernel
theorem d_O_until_9 : decode b_O_until 9 = .ok (.ireturn, 1) := by decide +kernel
theorem d_O_until_10 : decode b_O_until 10 = .ok (.aload_n 0, 1) := by decide +kernel
theorem d_O_until_11 : decode b_O_until 11 = .ok (.iload_n 1, 1) := by decide +kernel
theorem d_O_until_12 : decode b_O_until 12 = .ok (.iload_n 2, 1) := by decide +kernel
theorem d_O_until_13 : decode b_O_until 13 = .ok (.invokevirtual 222, 3) := by decide +kernel
theorem d_O_until_16 : decode b_O_until 16 = .ok (.aload_n 0, 1) := by decide +kernel
theorem d_O_until_17 : decode b_O_until 17 = .ok (.getfield 12, 3) := by decide +kernel
theorem d_O_until_20 : decode b_O_until 20 = .ok (.invokevirtual 148, 3) := by decide +kernel
theorem d_O_until_23 : decode b_O_until 23 = .ok (.ldc 73, 2) := by decide +kernel
theorem d_O_until_25 : decode b_O_until 25 = .ok (.istore_n 3, 1) := by decide +kernel
theorem d_O_until_26 : decode b_O_until 26 = .ok (.iload_n 1, 1) := by decide +kernel
theorem d_O_until_27 : decode b_O_until 27 = .ok (.istore 4, 2) := by decide +kernel
theorem d_O_until_29 : decode b_O_until 29 = .ok (.iload 4, 2) := by decide +kernel
theorem d_O_until_31 : decode b_O_until 31 = .ok (.sipush 500, 3) := by decide +kernel
theorem d_O_until_34 : decode b_O_until 34 = .ok (.if_icmp .gt 26, 3) := by decide +kernel
theorem d_O_until_37 : decode b_O_until 37 = .ok (.aload_n 0, 1) := by decide +kernel
theorem d_O_until_38 : decode b_O_until 38 = .ok (.iload 4, 2) := by decide +kernel
theorem d_O_until_40 : decode b_O_until 40 = .ok (.iload_n 1, 1) := by decide +kernel
theorem d_O_until_41 : decode b_O_until 41 = .ok (.isub, 1) := by decide +kernel
theorem d_O_until_42 : decode b_O_until 42 = .ok (.invokevirtual 226, 3) := by decide +kernel
theorem d_O_until_45 : decode b_O_until 45 = .ok (.ifCond .ne 6, 3) := by decide +kernel
theorem d_O_until_48 : decode b_O_until 48 = .ok (.goto 12, 3) := by decide +kernel
theorem d_O_until_51 : decode b_O_until 51 = .ok (.iload 4, 2) := by decide +kernel
theorem d_O_until_53 : decode b_O_until 53 = .ok (.istore_n 3, 1) := by decide +kernel
theorem d_O_until_54 : decode b_O_until 54 = .ok (.iinc 4 1, 3) := by decide +kernel
theorem d_O_until_57 : decode b_O_until 57 = .ok (.goto (-28), 3) := by decide +kernel
theorem d_O_until_60 : decode b_O_until 60 = .ok (.iload_n 3, 1) := by decide +kernel
theorem d_O_until_61 : decode b_O_until 61 = .ok (.ireturn, 1) := by decide +kernel
abbrev b_O_chance : ByteArray := prog_1_method_24_code
abbrev y_O_chance : MethodName := ⟨"OldBeams", "chance", "(IIZ)J"⟩
theorem d_O_chance_0 : decode b_O_chance 0 = .ok (.aload_n 0, 1) := by decide +kernel
theorem d_O_chance_1 : decode b_O_chance 1 = .ok (.iload_n 1, 1) := by decide +kernel
theorem d_O_chance_2 : decode b_O_chance 2 = .ok (.iload_n 2, 1) := by decide +kernel
theorem d_O_chance_3 : decode b_O_chance 3 = .ok (.invokestatic 53, 3) := by decide +kernel
theorem d_O_chance_6 : decode b_O_chance 6 = .ok (.invokevirtual 144, 3) := by decide +kernel
theorem d_O_chance_9 : decode b_O_chance 9 = .ok (.istore 4, 2) := by decide +kernel
theorem d_O_chance_11 : decode b_O_chance 11 = .ok (.iload 4, 2) := by decide +kernel
theorem d_O_chance_13 : decode b_O_chance 13 = .ok (.ifCond .eq 7, 3) := by decide +kernel
theorem d_O_chance_16 : decode b_O_chance 16 = .ok (.iload 4, 2) := by decide +kernel
theorem d_O_chance_18 : decode b_O_chance 18 = .ok (.i2l, 1) := by decide +kernel
theorem d_O_chance_19 : decode b_O_chance 19 = .ok (.lreturn, 1) := by decide +kernel
theorem d_O_chance_20 : decode b_O_chance 20 = .ok (.aload_n 0, 1) := by decide +kernel
theorem d_O_chance_21 : decode b_O_chance 21 = .ok (.getfield 12, 3) := by decide +kernel
theorem d_O_chance_24 : decode b_O_chance 24 = .ok (.invokevirtual 148, 3) := by decide +kernel
theorem d_O_chance_27 : decode b_O_chance 27 = .ok (.aload_n 0, 1) := by decide +kernel
theorem d_O_chance_28 : decode b_O_chance 28 = .ok (.getfield 19, 3) := by decide +kernel
theorem d_O_chance_31 : decode b_O_chance 31 = .ok (.iload_n 1, 1) := by decide +kernel
theorem d_O_chance_32 : decode b_O_chance 32 = .ok (.iload_n 2, 1) := by decide +kernel
theorem d_O_chance_33 : decode b_O_chance 33 = .ok (.invokevirtual 205, 3) := by decide +kernel
theorem d_O_chance_36 : decode b_O_chance 36 = .ok (.pop, 1) := by decide +kernel
theorem d_O_chance_37 : decode b_O_chance 37 = .ok (.aload_n 0, 1) := by decide +kernel
theorem d_O_chance_38 : decode b_O_chance 38 = .ok (.iload_n 1, 1) := by decide +kernel
theorem d_O_chance_39 : decode b_O_chance 39 = .ok (.invokevirtual 229, 3) := by decide +kernel
theorem d_O_chance_42 : decode b_O_chance 42 = .ok (.aload_n 0, 1) := by decide +kernel
theorem d_O_chance_43 : decode b_O_chance 43 = .ok (.getfield 26, 3) := by decide +kernel
theorem d_O_chance_46 : decode b_O_chance 46 = .ok (.iload_n 3, 1) := by decide +kernel
theorem d_O_chance_47 : decode b_O_chance 47 = .ok (.invokevirtual 232, 3) := by decide +kernel
theorem d_O_chance_50 : decode b_O_chance 50 = .ok (.lreturn, 1) := by decide +kernel
abbrev b_O_putChance : ByteArray := prog_1_method_47_code
abbrev y_O_putChance : MethodName := ⟨"OldBeams", "putChance", "(I)V"⟩
theorem d_O_putChance_0 : decode b_O_putChance 0 = .ok (.aload_n 0, 1) := by decide +kernel
theorem d_O_putChance_1 : decode b_O_putChance 1 = .ok (.getfield 19, 3) := by decide +kernel
theorem d_O_putChance_4 : decode b_O_putChance 4 = .ok (.invokevirtual 281, 3) := by decide +kernel
theorem d_O_putChance_7 : decode b_O_putChance 7 = .ok (.lstore_n 2, 1) := by decide +kernel
theorem d_O_putChance_8 : decode b_O_putChance 8 = .ok (.aload_n 0, 1) := by decide +kernel
theorem d_O_putChance_9 : decode b_O_putChance 9 = .ok (.getfield 26, 3) := by decide +kernel
theorem d_O_putChance_12 : decode b_O_putChance 12 = .ok (.lload_n 2, 1) := by decide +kernel
theorem d_O_putChance_13 : decode b_O_putChance 13 = .ok (.aload_n 0, 1) := by decide +kernel
theorem d_O_putChance_14 : decode b_O_putChance 14 = .ok (.iload_n 1, 1) := by decide +kernel
theorem d_O_putChance_15 : decode b_O_putChance 15 = .ok (.invokevirtual 285, 3) := by decide +kernel
theorem d_O_putChance_18 : decode b_O_putChance 18 = .ok (.lsub, 1) := by decide +kernel
theorem d_O_putChance_19 : decode b_O_putChance 19 = .ok (.lload_n 2, 1) := by decide +kernel
theorem d_O_putChance_20 : decode b_O_putChance 20 = .ok (.invokevirtual 274, 3) := by decide +kernel
theorem d_O_putChance_23 : decode b_O_putChance 23 = .ok (.return_, 1) := by decide +kernel
abbrev b_O_lostOdds : ByteArray := prog_1_method_46_code
abbrev y_O_lostOdds : MethodName := ⟨"OldBeams", "lostOdds", "(I)J"⟩
theorem d_O_lostOdds_0 : decode b_O_lostOdds 0 = .ok (.lconst 0, 1) := by decide +kernel
theorem d_O_lostOdds_1 : decode b_O_lostOdds 1 = .ok (.lstore_n 2, 1) := by decide +kernel
theorem d_O_lostOdds_2 : decode b_O_lostOdds 2 = .ok (.iconst 0, 1) := by decide +kernel
theorem d_O_lostOdds_3 : decode b_O_lostOdds 3 = .ok (.istore 4, 2) := by decide +kernel
theorem d_O_lostOdds_5 : decode b_O_lostOdds 5 = .ok (.iload 4, 2) := by decide +kernel
theorem d_O_lostOdds_7 : decode b_O_lostOdds 7 = .ok (.bipush 11, 2) := by decide +kernel
theorem d_O_lostOdds_9 : decode b_O_lostOdds 9 = .ok (.if_icmp .ge 35, 3) := by decide +kernel
theorem d_O_lostOdds_12 : decode b_O_lostOdds 12 = .ok (.aload_n 0, 1) := by decide +kernel
theorem d_O_lostOdds_13 : decode b_O_lostOdds 13 = .ok (.getfield 12, 3) := by decide +kernel
theorem d_O_lostOdds_16 : decode b_O_lostOdds 16 = .ok (.iload_n 1, 1) := by decide +kernel
theorem d_O_lostOdds_17 : decode b_O_lostOdds 17 = .ok (.iload 4, 2) := by decide +kernel
theorem d_O_lostOdds_19 : decode b_O_lostOdds 19 = .ok (.invokevirtual 170, 3) := by decide +kernel
theorem d_O_lostOdds_22 : decode b_O_lostOdds 22 = .ok (.ifCond .ne 16, 3) := by decide +kernel
theorem d_O_lostOdds_25 : decode b_O_lostOdds 25 = .ok (.lload_n 2, 1) := by decide +kernel
theorem d_O_lostOdds_26 : decode b_O_lostOdds 26 = .ok (.aload_n 0, 1) := by decide +kernel
theorem d_O_lostOdds_27 : decode b_O_lostOdds 27 = .ok (.getfield 19, 3) := by decide +kernel
theorem d_O_lostOdds_30 : decode b_O_lostOdds 30 = .ok (.getfield 209, 3) := by decide +kernel
theorem d_O_lostOdds_33 : decode b_O_lostOdds 33 = .ok (.iload 4, 2) := by decide +kernel
theorem d_O_lostOdds_35 : decode b_O_lostOdds 35 = .ok (.laload, 1) := by decide +kernel
theorem d_O_lostOdds_36 : decode b_O_lostOdds 36 = .ok (.ladd, 1) := by decide +kernel
theorem d_O_lostOdds_37 : decode b_O_lostOdds 37 = .ok (.lstore_n 2, 1) := by decide +kernel
theorem d_O_lostOdds_38 : decode b_O_lostOdds 38 = .ok (.iinc 4 1, 3) := by decide +kernel
theorem d_O_lostOdds_41 : decode b_O_lostOdds 41 = .ok (.goto (-36), 3) := by decide +kernel
theorem d_O_lostOdds_44 : decode b_O_lostOdds 44 = .ok (.lload_n 2, 1) := by decide +kernel
theorem d_O_lostOdds_45 : decode b_O_lostOdds 45 = .ok (.lreturn, 1) := by decide +kernel
abbrev b_O_weakest : ByteArray := prog_1_method_25_code
abbrev y_O_weakest : MethodName := ⟨"OldBeams", "weakest", "(I)I"⟩
theorem d_O_weakest_0 : decode b_O_weakest 0 = .ok (.iload_n 1, 1) := by decide +kernel
theorem d_O_weakest_1 : decode b_O_weakest 1 = .ok (.invokestatic 53, 3) := by decide +kernel
theorem d_O_weakest_4 : decode b_O_weakest 4 = .ok (.ifCond .ne 6, 3) := by decide +kernel
theorem d_O_weakest_7 : decode b_O_weakest 7 = .ok (.ldc 48, 2) := by decide +kernel
theorem d_O_weakest_9 : decode b_O_weakest 9 = .ok (.ireturn, 1) := by decide +kernel
theorem d_O_weakest_10 : decode b_O_weakest 10 = .ok (.aload_n 0, 1) := by decide +kernel
theorem d_O_weakest_11 : decode b_O_weakest 11 = .ok (.getfield 12, 3) := by decide +kernel
theorem d_O_weakest_14 : decode b_O_weakest 14 = .ok (.invokevirtual 148, 3) := by decide +kernel
theorem d_O_weakest_17 : decode b_O_weakest 17 = .ok (.ldc 73, 2) := by decide +kernel
theorem d_O_weakest_19 : decode b_O_weakest 19 = .ok (.istore_n 2, 1) := by decide +kernel
theorem d_O_weakest_20 : decode b_O_weakest 20 = .ok (.iconst 0, 1) := by decide +kernel
theorem d_O_weakest_21 : decode b_O_weakest 21 = .ok (.istore_n 3, 1) := by decide +kernel
theorem d_O_weakest_22 : decode b_O_weakest 22 = .ok (.iload_n 3, 1) := by decide +kernel
theorem d_O_weakest_23 : decode b_O_weakest 23 = .ok (.aload_n 0, 1) := by decide +kernel
theorem d_O_weakest_24 : decode b_O_weakest 24 = .ok (.getfield 12, 3) := by decide +kernel
theorem d_O_weakest_27 : decode b_O_weakest 27 = .ok (.getfield 57, 3) := by decide +kernel
theorem d_O_weakest_30 : decode b_O_weakest 30 = .ok (.if_icmp .ge 71, 3) := by decide +kernel
theorem d_O_weakest_33 : decode b_O_weakest 33 = .ok (.aload_n 0, 1) := by decide +kernel
theorem d_O_weakest_34 : decode b_O_weakest 34 = .ok (.getfield 12, 3) := by decide +kernel
theorem d_O_weakest_37 : decode b_O_weakest 37 = .ok (.iload_n 3, 1) := by decide +kernel
theorem d_O_weakest_38 : decode b_O_weakest 38 = .ok (.invokevirtual 109, 3) := by decide +kernel
theorem d_O_weakest_41 : decode b_O_weakest 41 = .ok (.ifCond .eq 6, 3) := by decide +kernel
theorem d_O_weakest_44 : decode b_O_weakest 44 = .ok (.goto 51, 3) := by decide +kernel
theorem d_O_weakest_47 : decode b_O_weakest 47 = .ok (.aload_n 0, 1) := by decide +kernel
theorem d_O_weakest_48 : decode b_O_weakest 48 = .ok (.getfield 19, 3) := by decide +kernel
theorem d_O_weakest_51 : decode b_O_weakest 51 = .ok (.iload_n 3, 1) := by decide +kernel
theorem d_O_weakest_52 : decode b_O_weakest 52 = .ok (.iload_n 1, 1) := by decide +kernel
theorem d_O_weakest_53 : decode b_O_weakest 53 = .ok (.invokevirtual 205, 3) := by decide +kernel
theorem d_O_weakest_56 : decode b_O_weakest 56 = .ok (.pop, 1) := by decide +kernel
theorem d_O_weakest_57 : decode b_O_weakest 57 = .ok (.aload_n 0, 1) := by decide +kernel
theorem d_O_weakest_58 : decode b_O_weakest 58 = .ok (.iload_n 3, 1) := by decide +kernel
theorem d_O_weakest_59 : decode b_O_weakest 59 = .ok (.invokevirtual 229, 3) := by decide +kernel
theorem d_O_weakest_62 : decode b_O_weakest 62 = .ok (.iload_n 2, 1) := by decide +kernel
theorem d_O_weakest_63 : decode b_O_weakest 63 = .ok (.ldc 73, 2) := by decide +kernel
theorem d_O_weakest_65 : decode b_O_weakest 65 = .ok (.if_icmp .eq 17, 3) := by decide +kernel
theorem d_O_weakest_68 : decode b_O_weakest 68 = .ok (.aload_n 0, 1) := by decide +kernel
theorem d_O_weakest_69 : decode b_O_weakest 69 = .ok (.getfield 26, 3) := by decide +kernel
theorem d_O_weakest_72 : decode b_O_weakest 72 = .ok (.aload_n 0, 1) := by decide +kernel
theorem d_O_weakest_73 : decode b_O_weakest 73 = .ok (.getfield 30, 3) := by decide +kernel
theorem d_O_weakest_76 : decode b_O_weakest 76 = .ok (.invokevirtual 236, 3) := by decide +kernel
theorem d_O_weakest_79 : decode b_O_weakest 79 = .ok (.ifCond .eq 16, 3) := by decide +kernel
theorem d_O_weakest_82 : decode b_O_weakest 82 = .ok (.iload_n 3, 1) := by decide +kernel
theorem d_O_weakest_83 : decode b_O_weakest 83 = .ok (.istore_n 2, 1) := by decide +kernel
theorem d_O_weakest_84 : decode b_O_weakest 84 = .ok (.aload_n 0, 1) := by decide +kernel
theorem d_O_weakest_85 : decode b_O_weakest 85 = .ok (.getfield 30, 3) := by decide +kernel
theorem d_O_weakest_88 : decode b_O_weakest 88 = .ok (.aload_n 0, 1) := by decide +kernel
theorem d_O_weakest_89 : decode b_O_weakest 89 = .ok (.getfield 26, 3) := by decide +kernel
theorem d_O_weakest_92 : decode b_O_weakest 92 = .ok (.invokevirtual 240, 3) := by decide +kernel
theorem d_O_weakest_95 : decode b_O_weakest 95 = .ok (.iinc 3 1, 3) := by decide +kernel
theorem d_O_weakest_98 : decode b_O_weakest 98 = .ok (.goto (-76), 3) := by decide +kernel
theorem d_O_weakest_101 : decode b_O_weakest 101 = .ok (.iload_n 2, 1) := by decide +kernel
theorem d_O_weakest_102 : decode b_O_weakest 102 = .ok (.ireturn, 1) := by decide +kernel
abbrev b_O_chain : ByteArray := prog_1_method_26_code
abbrev y_O_chain : MethodName := ⟨"OldBeams", "chain", "(II)I"⟩
theorem d_O_chain_0 : decode b_O_chain 0 = .ok (.aload_n 0, 1) := by decide +kernel
theorem d_O_chain_1 : decode b_O_chain 1 = .ok (.iload_n 1, 1) := by decide +kernel
theorem d_O_chain_2 : decode b_O_chain 2 = .ok (.iload_n 2, 1) := by decide +kernel
theorem d_O_chain_3 : decode b_O_chain 3 = .ok (.invokestatic 53, 3) := by decide +kernel
theorem d_O_chain_6 : decode b_O_chain 6 = .ok (.invokevirtual 144, 3) := by decide +kernel
theorem d_O_chain_9 : decode b_O_chain 9 = .ok (.istore_n 3, 1) := by decide +kernel
theorem d_O_chain_10 : decode b_O_chain 10 = .ok (.iload_n 3, 1) := by decide +kernel
theorem d_O_chain_11 : decode b_O_chain 11 = .ok (.ifCond .eq 5, 3) := by decide +kernel
theorem d_O_chain_14 : decode b_O_chain 14 = .ok (.iload_n 3, 1) := by decide +kernel
theorem d_O_chain_15 : decode b_O_chain 15 = .ok (.ireturn, 1) := by decide +kernel
theorem d_O_chain_16 : decode b_O_chain 16 = .ok (.aload_n 0, 1) := by decide +kernel
theorem d_O_chain_17 : decode b_O_chain 17 = .ok (.iload_n 2, 1) := by decide +kernel
theorem d_O_chain_18 : decode b_O_chain 18 = .ok (.iconst 0, 1) := by decide +kernel
theorem d_O_chain_19 : decode b_O_chain 19 = .ok (.invokevirtual 222, 3) := by decide +kernel
theorem d_O_chain_22 : decode b_O_chain 22 = .ok (.aload_n 0, 1) := by decide +kernel
theorem d_O_chain_23 : decode b_O_chain 23 = .ok (.getfield 12, 3) := by decide +kernel
theorem d_O_chain_26 : decode b_O_chain 26 = .ok (.iload_n 1, 1) := by decide +kernel
theorem d_O_chain_27 : decode b_O_chain 27 = .ok (.aload_n 0, 1) := by decide +kernel
theorem d_O_chain_28 : decode b_O_chain 28 = .ok (.getfield 37, 3) := by decide +kernel
theorem d_O_chain_31 : decode b_O_chain 31 = .ok (.aload_n 0, 1) := by decide +kernel
theorem d_O_chain_32 : decode b_O_chain 32 = .ok (.getfield 40, 3) := by decide +kernel
theorem d_O_chain_35 : decode b_O_chain 35 = .ok (.invokevirtual 244, 3) := by decide +kernel
theorem d_O_chain_38 : decode b_O_chain 38 = .ok (.pop, 1) := by decide +kernel
theorem d_O_chain_39 : decode b_O_chain 39 = .ok (.aload_n 0, 1) := by decide +kernel
theorem d_O_chain_40 : decode b_O_chain 40 = .ok (.getfield 12, 3) := by decide +kernel
theorem d_O_chain_43 : decode b_O_chain 43 = .ok (.getfield 248, 3) := by decide +kernel
theorem d_O_chain_46 : decode b_O_chain 46 = .ok (.invokestatic 139, 3) := by decide +kernel
theorem d_O_chain_49 : decode b_O_chain 49 = .ok (.ireturn, 1) := by decide +kernel
abbrev b_O_chainAt : ByteArray := prog_1_method_27_code
abbrev y_O_chainAt : MethodName := ⟨"OldBeams", "chainAt", "(III)I"⟩
theorem d_O_chainAt_0 : decode b_O_chainAt 0 = .ok (.aload_n 0, 1) := by decide +kernel
theorem d_O_chainAt_1 : decode b_O_chainAt 1 = .ok (.iload_n 1, 1) := by decide +kernel
theorem d_O_chainAt_2 : decode b_O_chainAt 2 = .ok (.iload_n 2, 1) := by decide +kernel
theorem d_O_chainAt_3 : decode b_O_chainAt 3 = .ok (.invokestatic 53, 3) := by decide +kernel
theorem d_O_chainAt_6 : decode b_O_chainAt 6 = .ok (.invokevirtual 144, 3) := by decide +kernel
theorem d_O_chainAt_9 : decode b_O_chainAt 9 = .ok (.istore 4, 2) := by decide +kernel
theorem d_O_chainAt_11 : decode b_O_chainAt 11 = .ok (.iload 4, 2) := by decide +kernel
theorem d_O_chainAt_13 : decode b_O_chainAt 13 = .ok (.ifCond .eq 6, 3) := by decide +kernel
theorem d_O_chainAt_16 : decode b_O_chainAt 16 = .ok (.iload 4, 2) := by decide +kernel
theorem d_O_chainAt_18 : decode b_O_chainAt 18 = .ok (.ireturn, 1) := by decide +kernel
theorem d_O_chainAt_19 : decode b_O_chainAt 19 = .ok (.aload_n 0, 1) := by decide +kernel
theorem d_O_chainAt_20 : decode b_O_chainAt 20 = .ok (.iload_n 2, 1) := by decide +kernel
theorem d_O_chainAt_21 : decode b_O_chainAt 21 = .ok (.iconst 0, 1) := by decide +kernel
theorem d_O_chainAt_22 : decode b_O_chainAt 22 = .ok (.invokevirtual 222, 3) := by decide +kernel
theorem d_O_chainAt_25 : decode b_O_chainAt 25 = .ok (.aload_n 0, 1) := by decide +kernel
theorem d_O_chainAt_26 : decode b_O_chainAt 26 = .ok (.getfield 12, 3) := by decide +kernel
theorem d_O_chainAt_29 : decode b_O_chainAt 29 = .ok (.iload_n 1, 1) := by decide +kernel
theorem d_O_chainAt_30 : decode b_O_chainAt 30 = .ok (.aload_n 0, 1) := by decide +kernel
theorem d_O_chainAt_31 : decode b_O_chainAt 31 = .ok (.getfield 37, 3) := by decide +kernel
theorem d_O_chainAt_34 : decode b_O_chainAt 34 = .ok (.aload_n 0, 1) := by decide +kernel
theorem d_O_chainAt_35 : decode b_O_chainAt 35 = .ok (.getfield 40, 3) := by decide +kernel
theorem d_O_chainAt_38 : decode b_O_chainAt 38 = .ok (.invokevirtual 244, 3) := by decide +kernel
theorem d_O_chainAt_41 : decode b_O_chainAt 41 = .ok (.istore 5, 2) := by decide +kernel
theorem d_O_chainAt_43 : decode b_O_chainAt 43 = .ok (.iload_n 3, 1) := by decide +kernel
theorem d_O_chainAt_44 : decode b_O_chainAt 44 = .ok (.iconst 0, 1) := by decide +kernel
theorem d_O_chainAt_45 : decode b_O_chainAt 45 = .ok (.iload 5, 2) := by decide +kernel
theorem d_O_chainAt_47 : decode b_O_chainAt 47 = .ok (.iconst 1, 1) := by decide +kernel
theorem d_O_chainAt_48 : decode b_O_chainAt 48 = .ok (.isub, 1) := by decide +kernel
theorem d_O_chainAt_49 : decode b_O_chainAt 49 = .ok (.invokestatic 43, 3) := by decide +kernel
theorem d_O_chainAt_52 : decode b_O_chainAt 52 = .ok (.ifCond .eq 12, 3) := by decide +kernel
theorem d_O_chainAt_55 : decode b_O_chainAt 55 = .ok (.aload_n 0, 1) := by decide +kernel
theorem d_O_chainAt_56 : decode b_O_chainAt 56 = .ok (.getfield 40, 3) := by decide +kernel
theorem d_O_chainAt_59 : decode b_O_chainAt 59 = .ok (.iload_n 3, 1) := by decide +kernel
theorem d_O_chainAt_60 : decode b_O_chainAt 60 = .ok (.iaload, 1) := by decide +kernel
theorem d_O_chainAt_61 : decode b_O_chainAt 61 = .ok (.goto 5, 3) := by decide +kernel
theorem d_O_chainAt_64 : decode b_O_chainAt 64 = .ok (.ldc 73, 2) := by decide +kernel
theorem d_O_chainAt_66 : decode b_O_chainAt 66 = .ok (.ireturn, 1) := by decide +kernel
abbrev b_O_prop : ByteArray := prog_1_method_28_code
abbrev y_O_prop : MethodName := ⟨"OldBeams", "prop", "(III)I"⟩
theorem d_O_prop_0 : decode b_O_prop 0 = .ok (.aload_n 0, 1) := by decide +kernel
theorem d_O_prop_1 : decode b_O_prop 1 = .ok (.getfield 12, 3) := by decide +kernel
theorem d_O_prop_4 : decode b_O_prop 4 = .ok (.iload_n 1, 1) := by decide +kernel
theorem d_O_prop_5 : decode b_O_prop 5 = .ok (.invokevirtual 66, 3) := by decide +kernel
theorem d_O_prop_8 : decode b_O_prop 8 = .ok (.ifCond .ne 6, 3) := by decide +kernel
theorem d_O_prop_11 : decode b_O_prop 11 = .ok (.ldc 47, 2) := by decide +kernel
theorem d_O_prop_13 : decode b_O_prop 13 = .ok (.ireturn, 1) := by decide +kernel
theorem d_O_prop_14 : decode b_O_prop 14 = .ok (.aload_n 0, 1) := by decide +kernel
theorem d_O_prop_15 : decode b_O_prop 15 = .ok (.getfield 12, 3) := by decide +kernel
theorem d_O_prop_18 : decode b_O_prop 18 = .ok (.iload_n 1, 1) := by decide +kernel
theorem d_O_prop_19 : decode b_O_prop 19 = .ok (.iload_n 2, 1) := by decide +kernel
theorem d_O_prop_20 : decode b_O_prop 20 = .ok (.invokevirtual 69, 3) := by decide +kernel
theorem d_O_prop_23 : decode b_O_prop 23 = .ok (.ifCond .eq 14, 3) := by decide +kernel
theorem d_O_prop_26 : decode b_O_prop 26 = .ok (.iload_n 3, 1) := by decide +kernel
theorem d_O_prop_27 : decode b_O_prop 27 = .ok (.iconst 1, 1) := by decide +kernel
theorem d_O_prop_28 : decode b_O_prop 28 = .ok (.sipush 9999, 3) := by decide +kernel
theorem d_O_prop_31 : decode b_O_prop 31 = .ok (.invokestatic 43, 3) := by decide +kernel
theorem d_O_prop_34 : decode b_O_prop 34 = .ok (.ifCond .ne 6, 3) := by decide +kernel
theorem d_O_prop_37 : decode b_O_prop 37 = .ok (.ldc 48, 2) := by decide +kernel
theorem d_O_prop_39 : decode b_O_prop 39 = .ok (.ireturn, 1) := by decide +kernel
theorem d_O_prop_40 : decode b_O_prop 40 = .ok (.aload_n 0, 1) := by decide +kernel
theorem d_O_prop_41 : decode b_O_prop 41 = .ok (.getfield 12, 3) := by decide +kernel
theorem d_O_prop_44 : decode b_O_prop 44 = .ok (.getfield 251, 3) := by decide +kernel
theorem d_O_prop_47 : decode b_O_prop 47 = .ok (.bipush 8, 2) := by decide +kernel
theorem d_O_prop_49 : decode b_O_prop 49 = .ok (.if_icmp .lt 6, 3) := by decide +kernel
theorem d_O_prop_52 : decode b_O_prop 52 = .ok (.ldc 61, 2) := by decide +kernel
theorem d_O_prop_54 : decode b_O_prop 54 = .ok (.ireturn, 1) := by decide +kernel
theorem d_O_prop_55 : decode b_O_prop 55 = .ok (.aload_n 0, 1) := by decide +kernel
theorem d_O_prop_56 : decode b_O_prop 56 = .ok (.getfield 12, 3) := by decide +kernel
theorem d_O_prop_59 : decode b_O_prop 59 = .ok (.iload_n 1, 1) := by decide +kernel
theorem d_O_prop_60 : decode b_O_prop 60 = .ok (.iload_n 2, 1) := by decide +kernel
theorem d_O_prop_61 : decode b_O_prop 61 = .ok (.iload_n 3, 1) := by decide +kernel
theorem d_O_prop_62 : decode b_O_prop 62 = .ok (.invokevirtual 254, 3) := by decide +kernel
theorem d_O_prop_65 : decode b_O_prop 65 = .ok (.ireturn, 1) := by decide +kernel
abbrev b_O_set : ByteArray := prog_1_method_29_code
abbrev y_O_set : MethodName := ⟨"OldBeams", "set", "(IZ)I"⟩
theorem d_O_set_0 : decode b_O_set 0 = .ok (.iload_n 1, 1) := by decide +kernel
theorem d_O_set_1 : decode b_O_set 1 = .ok (.iconst 0, 1) := by decide +kernel
theorem d_O_set_2 : decode b_O_set 2 = .ok (.aload_n 0, 1) := by decide +kernel
theorem d_O_set_3 : decode b_O_set 3 = .ok (.getfield 12, 3) := by decide +kernel
theorem d_O_set_6 : decode b_O_set 6 = .ok (.getfield 251, 3) := by decide +kernel
theorem d_O_set_9 : decode b_O_set 9 = .ok (.iconst 1, 1) := by decide +kernel
theorem d_O_set_10 : decode b_O_set 10 = .ok (.isub, 1) := by decide +kernel
theorem d_O_set_11 : decode b_O_set 11 = .ok (.invokestatic 43, 3) := by decide +kernel
theorem d_O_set_14 : decode b_O_set 14 = .ok (.ifCond .ne 6, 3) := by decide +kernel
theorem d_O_set_17 : decode b_O_set 17 = .ok (.ldc 47, 2) := by decide +kernel
theorem d_O_set_19 : decode b_O_set 19 = .ok (.ireturn, 1) := by decide +kernel
theorem d_O_set_20 : decode b_O_set 20 = .ok (.iload_n 1, 1) := by decide +kernel
theorem d_O_set_21 : decode b_O_set 21 = .ok (.invokestatic 257, 3) := by decide +kernel
theorem d_O_set_24 : decode b_O_set 24 = .ok (.istore_n 3, 1) := by decide +kernel
theorem d_O_set_25 : decode b_O_set 25 = .ok (.aload_n 0, 1) := by decide +kernel
theorem d_O_set_26 : decode b_O_set 26 = .ok (.getfield 12, 3) := by decide +kernel
theorem d_O_set_29 : decode b_O_set 29 = .ok (.getfield 260, 3) := by decide +kernel
theorem d_O_set_32 : decode b_O_set 32 = .ok (.iload_n 3, 1) := by decide +kernel
theorem d_O_set_33 : decode b_O_set 33 = .ok (.iand, 1) := by decide +kernel
theorem d_O_set_34 : decode b_O_set 34 = .ok (.ifCond .eq 7, 3) := by decide +kernel
theorem d_O_set_37 : decode b_O_set 37 = .ok (.iconst 1, 1) := by decide +kernel
theorem d_O_set_38 : decode b_O_set 38 = .ok (.goto 4, 3) := by decide +kernel
theorem d_O_set_41 : decode b_O_set 41 = .ok (.iconst 0, 1) := by decide +kernel
theorem d_O_set_42 : decode b_O_set 42 = .ok (.invokestatic 105, 3) := by decide +kernel
theorem d_O_set_45 : decode b_O_set 45 = .ok (.istore 4, 2) := by decide +kernel
theorem d_O_set_47 : decode b_O_set 47 = .ok (.aload_n 0, 1) := by decide +kernel
theorem d_O_set_48 : decode b_O_set 48 = .ok (.getfield 12, 3) := by decide +kernel
theorem d_O_set_51 : decode b_O_set 51 = .ok (.iload_n 2, 1) := by decide +kernel
theorem d_O_set_52 : decode b_O_set 52 = .ok (.ifCond .eq 15, 3) := by decide +kernel
theorem d_O_set_55 : decode b_O_set 55 = .ok (.aload_n 0, 1) := by decide +kernel
theorem d_O_set_56 : decode b_O_set 56 = .ok (.getfield 12, 3) := by decide +kernel
theorem d_O_set_59 : decode b_O_set 59 = .ok (.getfield 260, 3) := by decide +kernel
theorem d_O_set_62 : decode b_O_set 62 = .ok (.iload_n 3, 1) := by decide +kernel
theorem d_O_set_63 : decode b_O_set 63 = .ok (.ior, 1) := by decide +kernel
theorem d_O_set_64 : decode b_O_set 64 = .ok (.goto 14, 3) := by decide +kernel
theorem d_O_set_67 : decode b_O_set 67 = .ok (.aload_n 0, 1) := by decide +kernel
theorem d_O_set_68 : decode b_O_set 68 = .ok (.getfield 12, 3) := by decide +kernel
theorem d_O_set_71 : decode b_O_set 71 = .ok (.getfield 260, 3) := by decide +kernel
theorem d_O_set_74 : decode b_O_set 74 = .ok (.iload_n 3, 1) := by decide +kernel
theorem d_O_set_75 : decode b_O_set 75 = .ok (.iconst (-1), 1) := by decide +kernel
theorem d_O_set_76 : decode b_O_set 76 = .ok (.ixor, 1) := by decide +kernel
theorem d_O_set_77 : decode b_O_set 77 = .ok (.iand, 1) := by decide +kernel
theorem d_O_set_78 : decode b_O_set 78 = .ok (.putfield 260, 3) := by decide +kernel
theorem d_O_set_81 : decode b_O_set 81 = .ok (.iload 4, 2) := by decide +kernel
theorem d_O_set_83 : decode b_O_set 83 = .ok (.ireturn, 1) := by decide +kernel
abbrev b_O_fewest : ByteArray := prog_1_method_30_code
abbrev y_O_fewest : MethodName := ⟨"OldBeams", "fewest", "(I)I"⟩
theorem d_O_fewest_0 : decode b_O_fewest 0 = .ok (.iload_n 1, 1) := by decide +kernel
theorem d_O_fewest_1 : decode b_O_fewest 1 = .ok (.invokestatic 53, 3) := by decide +kernel
theorem d_O_fewest_4 : decode b_O_fewest 4 = .ok (.ifCond .ne 6, 3) := by decide +kernel
theorem d_O_fewest_7 : decode b_O_fewest 7 = .ok (.ldc 48, 2) := by decide +kernel
theorem d_O_fewest_9 : decode b_O_fewest 9 = .ok (.ireturn, 1) := by decide +kernel
theorem d_O_fewest_10 : decode b_O_fewest 10 = .ok (.aload_n 0, 1) := by decide +kernel
theorem d_O_fewest_11 : decode b_O_fewest 11 = .ok (.iload_n 1, 1) := by decide +kernel
theorem d_O_fewest_12 : decode b_O_fewest 12 = .ok (.iconst 0, 1) := by decide +kernel
theorem d_O_fewest_13 : decode b_O_fewest 13 = .ok (.invokevirtual 222, 3) := by decide +kernel
theorem d_O_fewest_16 : decode b_O_fewest 16 = .ok (.aload_n 0, 1) := by decide +kernel
theorem d_O_fewest_17 : decode b_O_fewest 17 = .ok (.getfield 12, 3) := by decide +kernel
theorem d_O_fewest_20 : decode b_O_fewest 20 = .ok (.aload_n 0, 1) := by decide +kernel
theorem d_O_fewest_21 : decode b_O_fewest 21 = .ok (.getfield 37, 3) := by decide +kernel
theorem d_O_fewest_24 : decode b_O_fewest 24 = .ok (.invokevirtual 263, 3) := by decide +kernel
theorem d_O_fewest_27 : decode b_O_fewest 27 = .ok (.istore_n 2, 1) := by decide +kernel
theorem d_O_fewest_28 : decode b_O_fewest 28 = .ok (.iload_n 2, 1) := by decide +kernel
theorem d_O_fewest_29 : decode b_O_fewest 29 = .ok (.ldc 73, 2) := by decide +kernel
theorem d_O_fewest_31 : decode b_O_fewest 31 = .ok (.if_icmp .ne 8, 3) := by decide +kernel
theorem d_O_fewest_34 : decode b_O_fewest 34 = .ok (.ldc 73, 2) := by decide +kernel
theorem d_O_fewest_36 : decode b_O_fewest 36 = .ok (.goto 7, 3) := by decide +kernel
theorem d_O_fewest_39 : decode b_O_fewest 39 = .ok (.iload_n 2, 1) := by decide +kernel
theorem d_O_fewest_40 : decode b_O_fewest 40 = .ok (.invokestatic 139, 3) := by decide +kernel
theorem d_O_fewest_43 : decode b_O_fewest 43 = .ok (.ireturn, 1) := by decide +kernel
abbrev b_O_needed : ByteArray := prog_1_method_31_code
abbrev y_O_needed : MethodName := ⟨"OldBeams", "needed", "(II)I"⟩
theorem d_O_needed_0 : decode b_O_needed 0 = .ok (.iload_n 1, 1) := by decide +kernel
theorem d_O_needed_1 : decode b_O_needed 1 = .ok (.invokestatic 53, 3) := by decide +kernel
theorem d_O_needed_4 : decode b_O_needed 4 = .ok (.ifCond .ne 6, 3) := by decide +kernel
theorem d_O_needed_7 : decode b_O_needed 7 = .ok (.ldc 48, 2) := by decide +kernel
theorem d_O_needed_9 : decode b_O_needed 9 = .ok (.ireturn, 1) := by decide +kernel
theorem d_O_needed_10 : decode b_O_needed 10 = .ok (.aload_n 0, 1) := by decide +kernel
theorem d_O_needed_11 : decode b_O_needed 11 = .ok (.iload_n 1, 1) := by decide +kernel
theorem d_O_needed_12 : decode b_O_needed 12 = .ok (.iconst 0, 1) := by decide +kernel
theorem d_O_needed_13 : decode b_O_needed 13 = .ok (.invokevirtual 222, 3) := by decide +kernel
theorem d_O_needed_16 : decode b_O_needed 16 = .ok (.aload_n 0, 1) := by decide +kernel
theorem d_O_needed_17 : decode b_O_needed 17 = .ok (.getfield 12, 3) := by decide +kernel
theorem d_O_needed_20 : decode b_O_needed 20 = .ok (.aload_n 0, 1) := by decide +kernel
theorem d_O_needed_21 : decode b_O_needed 21 = .ok (.getfield 37, 3) := by decide +kernel
theorem d_O_needed_24 : decode b_O_needed 24 = .ok (.invokevirtual 263, 3) := by decide +kernel
theorem d_O_needed_27 : decode b_O_needed 27 = .ok (.istore_n 3, 1) := by decide +kernel
theorem d_O_needed_28 : decode b_O_needed 28 = .ok (.iload_n 3, 1) := by decide +kernel
theorem d_O_needed_29 : decode b_O_needed 29 = .ok (.ldc 73, 2) := by decide +kernel
theorem d_O_needed_31 : decode b_O_needed 31 = .ok (.if_icmp .ne 6, 3) := by decide +kernel
theorem d_O_needed_34 : decode b_O_needed 34 = .ok (.ldc 73, 2) := by decide +kernel
theorem d_O_needed_36 : decode b_O_needed 36 = .ok (.ireturn, 1) := by decide +kernel
theorem d_O_needed_37 : decode b_O_needed 37 = .ok (.iconst 0, 1) := by decide +kernel
theorem d_O_needed_38 : decode b_O_needed 38 = .ok (.istore 4, 2) := by decide +kernel
theorem d_O_needed_40 : decode b_O_needed 40 = .ok (.iconst 0, 1) := by decide +kernel
theorem d_O_needed_41 : decode b_O_needed 41 = .ok (.istore 5, 2) := by decide +kernel
theorem d_O_needed_43 : decode b_O_needed 43 = .ok (.iload 5, 2) := by decide +kernel
theorem d_O_needed_45 : decode b_O_needed 45 = .ok (.bipush 8, 2) := by decide +kernel
theorem d_O_needed_47 : decode b_O_needed 47 = .ok (.if_icmp .ge 34, 3) := by decide +kernel
theorem d_O_needed_50 : decode b_O_needed 50 = .ok (.iload_n 3, 1) := by decide +kernel
theorem d_O_needed_51 : decode b_O_needed 51 = .ok (.iload 5, 2) := by decide +kernel
theorem d_O_needed_53 : decode b_O_needed 53 = .ok (.invokestatic 257, 3) := by decide +kernel
theorem d_O_needed_56 : decode b_O_needed 56 = .ok (.iand, 1) := by decide +kernel
theorem d_O_needed_57 : decode b_O_needed 57 = .ok (.ifCond .ne 6, 3) := by decide +kernel
theorem d_O_needed_60 : decode b_O_needed 60 = .ok (.goto 15, 3) := by decide +kernel
theorem d_O_needed_63 : decode b_O_needed 63 = .ok (.iload 4, 2) := by decide +kernel
theorem d_O_needed_65 : decode b_O_needed 65 = .ok (.iload_n 2, 1) := by decide +kernel
theorem d_O_needed_66 : decode b_O_needed 66 = .ok (.if_icmp .ne 6, 3) := by decide +kernel
theorem d_O_needed_69 : decode b_O_needed 69 = .ok (.iload 5, 2) := by decide +kernel
theorem d_O_needed_71 : decode b_O_needed 71 = .ok (.ireturn, 1) := by decide +kernel
theorem d_O_needed_72 : decode b_O_needed 72 = .ok (.iinc 4 1, 3) := by decide +kernel
theorem d_O_needed_75 : decode b_O_needed 75 = .ok (.iinc 5 1, 3) := by decide +kernel
theorem d_O_needed_78 : decode b_O_needed 78 = .ok (.goto (-35), 3) := by decide +kernel
theorem d_O_needed_81 : decode b_O_needed 81 = .ok (.ldc 73, 2) := by decide +kernel
theorem d_O_needed_83 : decode b_O_needed 83 = .ok (.ireturn, 1) := by decide +kernel
abbrev b_O_price : ByteArray := prog_1_method_32_code
abbrev y_O_price : MethodName := ⟨"OldBeams", "price", "(II)I"⟩
theorem d_O_price_0 : decode b_O_price 0 = .ok (.iload_n 1, 1) := by decide +kernel
theorem d_O_price_1 : decode b_O_price 1 = .ok (.iconst 0, 1) := by decide +kernel
theorem d_O_price_2 : decode b_O_price 2 = .ok (.iconst 1, 1) := by decide +kernel
theorem d_O_price_3 : decode b_O_price 3 = .ok (.invokestatic 43, 3) := by decide +kernel
theorem d_O_price_6 : decode b_O_price 6 = .ok (.ifCond .eq 14, 3) := by decide +kernel
theorem d_O_price_9 : decode b_O_price 9 = .ok (.iload_n 2, 1) := by decide +kernel
theorem d_O_price_10 : decode b_O_price 10 = .ok (.iconst 0, 1) := by decide +kernel
theorem d_O_price_11 : decode b_O_price 11 = .ok (.sipush 9999, 3) := by decide +kernel
theorem d_O_price_14 : decode b_O_price 14 = .ok (.invokestatic 43, 3) := by decide +kernel
theorem d_O_price_17 : decode b_O_price 17 = .ok (.ifCond .ne 6, 3) := by decide +kernel
theorem d_O_price_20 : decode b_O_price 20 = .ok (.ldc 48, 2) := by decide +kernel
theorem d_O_price_22 : decode b_O_price 22 = .ok (.ireturn, 1) := by decide +kernel
theorem d_O_price_23 : decode b_O_price 23 = .ok (.aload_n 0, 1) := by decide +kernel
theorem d_O_price_24 : decode b_O_price 24 = .ok (.getfield 33, 3) := by decide +kernel
theorem d_O_price_27 : decode b_O_price 27 = .ok (.iload_n 1, 1) := by decide +kernel
theorem d_O_price_28 : decode b_O_price 28 = .ok (.iaload, 1) := by decide +kernel
theorem d_O_price_29 : decode b_O_price 29 = .ok (.istore_n 3, 1) := by decide +kernel
theorem d_O_price_30 : decode b_O_price 30 = .ok (.aload_n 0, 1) := by decide +kernel
theorem d_O_price_31 : decode b_O_price 31 = .ok (.getfield 33, 3) := by decide +kernel
theorem d_O_price_34 : decode b_O_price 34 = .ok (.iload_n 1, 1) := by decide +kernel
theorem d_O_price_35 : decode b_O_price 35 = .ok (.iload_n 2, 1) := by decide +kernel
theorem d_O_price_36 : decode b_O_price 36 = .ok (.iastore, 1) := by decide +kernel
theorem d_O_price_37 : decode b_O_price 37 = .ok (.iload_n 3, 1) := by decide +kernel
theorem d_O_price_38 : decode b_O_price 38 = .ok (.ireturn, 1) := by decide +kernel
abbrev b_O_mean : ByteArray := prog_1_method_33_code
abbrev y_O_mean : MethodName := ⟨"OldBeams", "mean", "(IIZ)J"⟩
theorem d_O_mean_0 : decode b_O_mean 0 = .ok (.aload_n 0, 1) := by decide +kernel
theorem d_O_mean_1 : decode b_O_mean 1 = .ok (.iload_n 1, 1) := by decide +kernel
theorem d_O_mean_2 : decode b_O_mean 2 = .ok (.iload_n 2, 1) := by decide +kernel
theorem d_O_mean_3 : decode b_O_mean 3 = .ok (.invokestatic 53, 3) := by decide +kernel
theorem d_O_mean_6 : decode b_O_mean 6 = .ok (.invokevirtual 144, 3) := by decide +kernel
theorem d_O_mean_9 : decode b_O_mean 9 = .ok (.istore 4, 2) := by decide +kernel
theorem d_O_mean_11 : decode b_O_mean 11 = .ok (.iload 4, 2) := by decide +kernel
theorem d_O_mean_13 : decode b_O_mean 13 = .ok (.ifCond .eq 7, 3) := by decide +kernel
theorem d_O_mean_16 : decode b_O_mean 16 = .ok (.iload 4, 2) := by decide +kernel
theorem d_O_mean_18 : decode b_O_mean 18 = .ok (.i2l, 1) := by decide +kernel
theorem d_O_mean_19 : decode b_O_mean 19 = .ok (.lreturn, 1) := by decide +kernel
theorem d_O_mean_20 : decode b_O_mean 20 = .ok (.aload_n 0, 1) := by decide +kernel
theorem d_O_mean_21 : decode b_O_mean 21 = .ok (.getfield 12, 3) := by decide +kernel
theorem d_O_mean_24 : decode b_O_mean 24 = .ok (.invokevirtual 148, 3) := by decide +kernel
theorem d_O_mean_27 : decode b_O_mean 27 = .ok (.aload_n 0, 1) := by decide +kernel
theorem d_O_mean_28 : decode b_O_mean 28 = .ok (.getfield 19, 3) := by decide +kernel
theorem d_O_mean_31 : decode b_O_mean 31 = .ok (.iload_n 1, 1) := by decide +kernel
theorem d_O_mean_32 : decode b_O_mean 32 = .ok (.iload_n 2, 1) := by decide +kernel
theorem d_O_mean_33 : decode b_O_mean 33 = .ok (.invokevirtual 205, 3) := by decide +kernel
theorem d_O_mean_36 : decode b_O_mean 36 = .ok (.pop, 1) := by decide +kernel
theorem d_O_mean_37 : decode b_O_mean 37 = .ok (.aload_n 0, 1) := by decide +kernel
theorem d_O_mean_38 : decode b_O_mean 38 = .ok (.iload_n 1, 1) := by decide +kernel
theorem d_O_mean_39 : decode b_O_mean 39 = .ok (.invokevirtual 267, 3) := by decide +kernel
theorem d_O_mean_42 : decode b_O_mean 42 = .ok (.aload_n 0, 1) := by decide +kernel
theorem d_O_mean_43 : decode b_O_mean 43 = .ok (.getfield 26, 3) := by decide +kernel
theorem d_O_mean_46 : decode b_O_mean 46 = .ok (.iload_n 3, 1) := by decide +kernel
theorem d_O_mean_47 : decode b_O_mean 47 = .ok (.invokevirtual 232, 3) := by decide +kernel
theorem d_O_mean_50 : decode b_O_mean 50 = .ok (.lreturn, 1) := by decide +kernel
abbrev b_O_putMean : ByteArray := prog_1_method_48_code
abbrev y_O_putMean : MethodName := ⟨"OldBeams", "putMean", "(I)V"⟩
theorem d_O_putMean_0 : decode b_O_putMean 0 = .ok (.aload_n 0, 1) := by decide +kernel
theorem d_O_putMean_1 : decode b_O_putMean 1 = .ok (.getfield 19, 3) := by decide +kernel
theorem d_O_putMean_4 : decode b_O_putMean 4 = .ok (.invokevirtual 281, 3) := by decide +kernel
theorem d_O_putMean_7 : decode b_O_putMean 7 = .ok (.lstore_n 2, 1) := by decide +kernel
theorem d_O_putMean_8 : decode b_O_putMean 8 = .ok (.aload_n 0, 1) := by decide +kernel
theorem d_O_putMean_9 : decode b_O_putMean 9 = .ok (.getfield 26, 3) := by decide +kernel
theorem d_O_putMean_12 : decode b_O_putMean 12 = .ok (.aload_n 0, 1) := by decide +kernel
theorem d_O_putMean_13 : decode b_O_putMean 13 = .ok (.lload_n 2, 1) := by decide +kernel
theorem d_O_putMean_14 : decode b_O_putMean 14 = .ok (.aload_n 0, 1) := by decide +kernel
theorem d_O_putMean_15 : decode b_O_putMean 15 = .ok (.iload_n 1, 1) := by decide +kernel
theorem d_O_putMean_16 : decode b_O_putMean 16 = .ok (.invokevirtual 285, 3) := by decide +kernel
theorem d_O_putMean_19 : decode b_O_putMean 19 = .ok (.invokevirtual 288, 3) := by decide +kernel
theorem d_O_putMean_22 : decode b_O_putMean 22 = .ok (.lload_n 2, 1) := by decide +kernel
theorem d_O_putMean_23 : decode b_O_putMean 23 = .ok (.invokevirtual 274, 3) := by decide +kernel
theorem d_O_putMean_26 : decode b_O_putMean 26 = .ok (.return_, 1) := by decide +kernel
abbrev b_O_cost : ByteArray := prog_1_method_50_code
abbrev y_O_cost : MethodName := ⟨"OldBeams", "cost", "(JJ)J"⟩
theorem d_O_cost_0 : decode b_O_cost 0 = .ok (.aload_n 0, 1) := by decide +kernel
theorem d_O_cost_1 : decode b_O_cost 1 = .ok (.getfield 33, 3) := by decide +kernel
theorem d_O_cost_4 : decode b_O_cost 4 = .ok (.iconst 0, 1) := by decide +kernel
theorem d_O_cost_5 : decode b_O_cost 5 = .ok (.iaload, 1) := by decide +kernel
theorem d_O_cost_6 : decode b_O_cost 6 = .ok (.i2l, 1) := by decide +kernel
theorem d_O_cost_7 : decode b_O_cost 7 = .ok (.lload_n 1, 1) := by decide +kernel
theorem d_O_cost_8 : decode b_O_cost 8 = .ok (.lmul, 1) := by decide +kernel
theorem d_O_cost_9 : decode b_O_cost 9 = .ok (.aload_n 0, 1) := by decide +kernel
theorem d_O_cost_10 : decode b_O_cost 10 = .ok (.getfield 33, 3) := by decide +kernel
theorem d_O_cost_13 : decode b_O_cost 13 = .ok (.iconst 1, 1) := by decide +kernel
theorem d_O_cost_14 : decode b_O_cost 14 = .ok (.iaload, 1) := by decide +kernel
theorem d_O_cost_15 : decode b_O_cost 15 = .ok (.i2l, 1) := by decide +kernel
theorem d_O_cost_16 : decode b_O_cost 16 = .ok (.lload_n 3, 1) := by decide +kernel
theorem d_O_cost_17 : decode b_O_cost 17 = .ok (.lmul, 1) := by decide +kernel
theorem d_O_cost_18 : decode b_O_cost 18 = .ok (.invokestatic 294, 3) := by decide +kernel
theorem d_O_cost_21 : decode b_O_cost 21 = .ok (.lreturn, 1) := by decide +kernel
abbrev b_O_worth : ByteArray := prog_1_method_34_code
abbrev y_O_worth : MethodName := ⟨"OldBeams", "worth", "(IIIZ)J"⟩
theorem d_O_worth_0 : decode b_O_worth 0 = .ok (.iload_n 2, 1) := by decide +kernel
theorem d_O_worth_1 : decode b_O_worth 1 = .ok (.invokestatic 182, 3) := by decide +kernel
theorem d_O_worth_4 : decode b_O_worth 4 = .ok (.ifCond .ne 7, 3) := by decide +kernel
theorem d_O_worth_7 : decode b_O_worth 7 = .ok (.ldc2_w 201, 3) := by decide +kernel
theorem d_O_worth_10 : decode b_O_worth 10 = .ok (.lreturn, 1) := by decide +kernel
theorem d_O_worth_11 : decode b_O_worth 11 = .ok (.aload_n 0, 1) := by decide +kernel
theorem d_O_worth_12 : decode b_O_worth 12 = .ok (.iload_n 1, 1) := by decide +kernel
theorem d_O_worth_13 : decode b_O_worth 13 = .ok (.iload_n 3, 1) := by decide +kernel
theorem d_O_worth_14 : decode b_O_worth 14 = .ok (.invokestatic 53, 3) := by decide +kernel
theorem d_O_worth_17 : decode b_O_worth 17 = .ok (.invokevirtual 144, 3) := by decide +kernel
theorem d_O_worth_20 : decode b_O_worth 20 = .ok (.istore 5, 2) := by decide +kernel
theorem d_O_worth_22 : decode b_O_worth 22 = .ok (.iload 5, 2) := by decide +kernel
theorem d_O_worth_24 : decode b_O_worth 24 = .ok (.ifCond .eq 7, 3) := by decide +kernel
theorem d_O_worth_27 : decode b_O_worth 27 = .ok (.iload 5, 2) := by decide +kernel
theorem d_O_worth_29 : decode b_O_worth 29 = .ok (.i2l, 1) := by decide +kernel
theorem d_O_worth_30 : decode b_O_worth 30 = .ok (.lreturn, 1) := by decide +kernel
theorem d_O_worth_31 : decode b_O_worth 31 = .ok (.aload_n 0, 1) := by decide +kernel
theorem d_O_worth_32 : decode b_O_worth 32 = .ok (.getfield 12, 3) := by decide +kernel
theorem d_O_worth_35 : decode b_O_worth 35 = .ok (.invokevirtual 148, 3) := by decide +kernel
theorem d_O_worth_38 : decode b_O_worth 38 = .ok (.aload_n 0, 1) := by decide +kernel
theorem d_O_worth_39 : decode b_O_worth 39 = .ok (.getfield 19, 3) := by decide +kernel
theorem d_O_worth_42 : decode b_O_worth 42 = .ok (.iload_n 1, 1) := by decide +kernel
theorem d_O_worth_43 : decode b_O_worth 43 = .ok (.iload_n 3, 1) := by decide +kernel
theorem d_O_worth_44 : decode b_O_worth 44 = .ok (.invokevirtual 205, 3) := by decide +kernel
theorem d_O_worth_47 : decode b_O_worth 47 = .ok (.pop, 1) := by decide +kernel
theorem d_O_worth_48 : decode b_O_worth 48 = .ok (.aload_n 0, 1) := by decide +kernel
theorem d_O_worth_49 : decode b_O_worth 49 = .ok (.iload_n 1, 1) := by decide +kernel
theorem d_O_worth_50 : decode b_O_worth 50 = .ok (.iload_n 2, 1) := by decide +kernel
theorem d_O_worth_51 : decode b_O_worth 51 = .ok (.invokevirtual 270, 3) := by decide +kernel
theorem d_O_worth_54 : decode b_O_worth 54 = .ok (.aload_n 0, 1) := by decide +kernel
theorem d_O_worth_55 : decode b_O_worth 55 = .ok (.getfield 26, 3) := by decide +kernel
theorem d_O_worth_58 : decode b_O_worth 58 = .ok (.iload 4, 2) := by decide +kernel
theorem d_O_worth_60 : decode b_O_worth 60 = .ok (.invokevirtual 232, 3) := by decide +kernel
theorem d_O_worth_63 : decode b_O_worth 63 = .ok (.lreturn, 1) := by decide +kernel
abbrev b_O_putWorth : ByteArray := prog_1_method_49_code
abbrev y_O_putWorth : MethodName := ⟨"OldBeams", "putWorth", "(II)V"⟩
theorem d_O_putWorth_0 : decode b_O_putWorth 0 = .ok (.lconst 0, 1) := by decide +kernel
theorem d_O_putWorth_1 : decode b_O_putWorth 1 = .ok (.lstore_n 3, 1) := by decide +kernel
theorem d_O_putWorth_2 : decode b_O_putWorth 2 = .ok (.lconst 0, 1) := by decide +kernel
theorem d_O_putWorth_3 : decode b_O_putWorth 3 = .ok (.lstore 5, 2) := by decide +kernel
theorem d_O_putWorth_5 : decode b_O_putWorth 5 = .ok (.iconst 0, 1) := by decide +kernel
theorem d_O_putWorth_6 : decode b_O_putWorth 6 = .ok (.istore 7, 2) := by decide +kernel
theorem d_O_putWorth_8 : decode b_O_putWorth 8 = .ok (.iload 7, 2) := by decide +kernel
theorem d_O_putWorth_10 : decode b_O_putWorth 10 = .ok (.bipush 11, 2) := by decide +kernel
theorem d_O_putWorth_12 : decode b_O_putWorth 12 = .ok (.if_icmp .ge 60, 3) := by decide +kernel
theorem d_O_putWorth_15 : decode b_O_putWorth 15 = .ok (.aload_n 0, 1) := by decide +kernel
theorem d_O_putWorth_16 : decode b_O_putWorth 16 = .ok (.getfield 19, 3) := by decide +kernel
theorem d_O_putWorth_19 : decode b_O_putWorth 19 = .ok (.getfield 209, 3) := by decide +kernel
theorem d_O_putWorth_22 : decode b_O_putWorth 22 = .ok (.iload 7, 2) := by decide +kernel
theorem d_O_putWorth_24 : decode b_O_putWorth 24 = .ok (.laload, 1) := by decide +kernel
theorem d_O_putWorth_25 : decode b_O_putWorth 25 = .ok (.aload_n 0, 1) := by decide +kernel
theorem d_O_putWorth_26 : decode b_O_putWorth 26 = .ok (.getfield 19, 3) := by decide +kernel
theorem d_O_putWorth_29 : decode b_O_putWorth 29 = .ok (.getfield 188, 3) := by decide +kernel
theorem d_O_putWorth_32 : decode b_O_putWorth 32 = .ok (.iload_n 2, 1) := by decide +kernel
theorem d_O_putWorth_33 : decode b_O_putWorth 33 = .ok (.aaload, 1) := by decide +kernel
theorem d_O_putWorth_34 : decode b_O_putWorth 34 = .ok (.iload 7, 2) := by decide +kernel
theorem d_O_putWorth_36 : decode b_O_putWorth 36 = .ok (.iaload, 1) := by decide +kernel
theorem d_O_putWorth_37 : decode b_O_putWorth 37 = .ok (.i2l, 1) := by decide +kernel
theorem d_O_putWorth_38 : decode b_O_putWorth 38 = .ok (.lmul, 1) := by decide +kernel
theorem d_O_putWorth_39 : decode b_O_putWorth 39 = .ok (.lstore 8, 2) := by decide +kernel
theorem d_O_putWorth_41 : decode b_O_putWorth 41 = .ok (.lload_n 3, 1) := by decide +kernel
theorem d_O_putWorth_42 : decode b_O_putWorth 42 = .ok (.lload 8, 2) := by decide +kernel
theorem d_O_putWorth_44 : decode b_O_putWorth 44 = .ok (.ladd, 1) := by decide +kernel
theorem d_O_putWorth_45 : decode b_O_putWorth 45 = .ok (.lstore_n 3, 1) := by decide +kernel
theorem d_O_putWorth_46 : decode b_O_putWorth 46 = .ok (.aload_n 0, 1) := by decide +kernel
theorem d_O_putWorth_47 : decode b_O_putWorth 47 = .ok (.getfield 12, 3) := by decide +kernel
theorem d_O_putWorth_50 : decode b_O_putWorth 50 = .ok (.iload_n 1, 1) := by decide +kernel
theorem d_O_putWorth_51 : decode b_O_putWorth 51 = .ok (.iload 7, 2) := by decide +kernel
theorem d_O_putWorth_53 : decode b_O_putWorth 53 = .ok (.invokevirtual 170, 3) := by decide +kernel
theorem d_O_putWorth_56 : decode b_O_putWorth 56 = .ok (.ifCond .ne 10, 3) := by decide +kernel
theorem d_O_putWorth_59 : decode b_O_putWorth 59 = .ok (.lload 5, 2) := by decide +kernel
theorem d_O_putWorth_61 : decode b_O_putWorth 61 = .ok (.lload 8, 2) := by decide +kernel
theorem d_O_putWorth_63 : decode b_O_putWorth 63 = .ok (.ladd, 1) := by decide +kernel
theorem d_O_putWorth_64 : decode b_O_putWorth 64 = .ok (.lstore 5, 2) := by decide +kernel
theorem d_O_putWorth_66 : decode b_O_putWorth 66 = .ok (.iinc 7 1, 3) := by decide +kernel
theorem d_O_putWorth_69 : decode b_O_putWorth 69 = .ok (.goto (-61), 3) := by decide +kernel
theorem d_O_putWorth_72 : decode b_O_putWorth 72 = .ok (.aload_n 0, 1) := by decide +kernel
theorem d_O_putWorth_73 : decode b_O_putWorth 73 = .ok (.getfield 19, 3) := by decide +kernel
theorem d_O_putWorth_76 : decode b_O_putWorth 76 = .ok (.invokevirtual 281, 3) := by decide +kernel
theorem d_O_putWorth_79 : decode b_O_putWorth 79 = .ok (.lstore 7, 2) := by decide +kernel
theorem d_O_putWorth_81 : decode b_O_putWorth 81 = .ok (.aload_n 0, 1) := by decide +kernel
theorem d_O_putWorth_82 : decode b_O_putWorth 82 = .ok (.iload_n 1, 1) := by decide +kernel
theorem d_O_putWorth_83 : decode b_O_putWorth 83 = .ok (.invokevirtual 285, 3) := by decide +kernel
theorem d_O_putWorth_86 : decode b_O_putWorth 86 = .ok (.lstore 9, 2) := by decide +kernel
theorem d_O_putWorth_88 : decode b_O_putWorth 88 = .ok (.ldc2_w 292, 3) := by decide +kernel
theorem d_O_putWorth_91 : decode b_O_putWorth 91 = .ok (.aload_n 0, 1) := by decide +kernel
theorem d_O_putWorth_92 : decode b_O_putWorth 92 = .ok (.lload 7, 2) := by decide +kernel
theorem d_O_putWorth_94 : decode b_O_putWorth 94 = .ok (.lload 9, 2) := by decide +kernel
theorem d_O_putWorth_96 : decode b_O_putWorth 96 = .ok (.invokevirtual 288, 3) := by decide +kernel
theorem d_O_putWorth_99 : decode b_O_putWorth 99 = .ok (.lmul, 1) := by decide +kernel
theorem d_O_putWorth_100 : decode b_O_putWorth 100 = .ok (.lstore 11, 2) := by decide +kernel
theorem d_O_putWorth_102 : decode b_O_putWorth 102 = .ok (.aload_n 0, 1) := by decide +kernel
theorem d_O_putWorth_103 : decode b_O_putWorth 103 = .ok (.lload_n 3, 1) := by decide +kernel
theorem d_O_putWorth_104 : decode b_O_putWorth 104 = .ok (.lload 5, 2) := by decide +kernel
theorem d_O_putWorth_106 : decode b_O_putWorth 106 = .ok (.invokevirtual 288, 3) := by decide +kernel
theorem d_O_putWorth_109 : decode b_O_putWorth 109 = .ok (.aload_n 0, 1) := by decide +kernel
theorem d_O_putWorth_110 : decode b_O_putWorth 110 = .ok (.ldc2_w 292, 3) := by decide +kernel
theorem d_O_putWorth_113 : decode b_O_putWorth 113 = .ok (.lload 7, 2) := by decide +kernel
theorem d_O_putWorth_115 : decode b_O_putWorth 115 = .ok (.lmul, 1) := by decide +kernel
theorem d_O_putWorth_116 : decode b_O_putWorth 116 = .ok (.lload_n 3, 1) := by decide +kernel
theorem d_O_putWorth_117 : decode b_O_putWorth 117 = .ok (.lsub, 1) := by decide +kernel
theorem d_O_putWorth_118 : decode b_O_putWorth 118 = .ok (.ldc2_w 292, 3) := by decide +kernel
theorem d_O_putWorth_121 : decode b_O_putWorth 121 = .ok (.lload 9, 2) := by decide +kernel
theorem d_O_putWorth_123 : decode b_O_putWorth 123 = .ok (.lmul, 1) := by decide +kernel
theorem d_O_putWorth_124 : decode b_O_putWorth 124 = .ok (.lload 5, 2) := by decide +kernel
theorem d_O_putWorth_126 : decode b_O_putWorth 126 = .ok (.lsub, 1) := by decide +kernel
theorem d_O_putWorth_127 : decode b_O_putWorth 127 = .ok (.invokevirtual 288, 3) := by decide +kernel
theorem d_O_putWorth_130 : decode b_O_putWorth 130 = .ok (.ladd, 1) := by decide +kernel
theorem d_O_putWorth_131 : decode b_O_putWorth 131 = .ok (.lstore 13, 2) := by decide +kernel
theorem d_O_putWorth_133 : decode b_O_putWorth 133 = .ok (.aload_n 0, 1) := by decide +kernel
theorem d_O_putWorth_134 : decode b_O_putWorth 134 = .ok (.getfield 26, 3) := by decide +kernel
theorem d_O_putWorth_137 : decode b_O_putWorth 137 = .ok (.lload 11, 2) := by decide +kernel
theorem d_O_putWorth_139 : decode b_O_putWorth 139 = .ok (.lload 13, 2) := by decide +kernel
theorem d_O_putWorth_141 : decode b_O_putWorth 141 = .ok (.lsub, 1) := by decide +kernel
theorem d_O_putWorth_142 : decode b_O_putWorth 142 = .ok (.ldc2_w 292, 3) := by decide +kernel
theorem d_O_putWorth_145 : decode b_O_putWorth 145 = .ok (.lload 7, 2) := by decide +kernel
theorem d_O_putWorth_147 : decode b_O_putWorth 147 = .ok (.lmul, 1) := by decide +kernel
theorem d_O_putWorth_148 : decode b_O_putWorth 148 = .ok (.invokevirtual 274, 3) := by decide +kernel
theorem d_O_putWorth_151 : decode b_O_putWorth 151 = .ok (.return_, 1) := by decide +kernel
abbrev b_O_bestLook : ByteArray := prog_1_method_35_code
abbrev y_O_bestLook : MethodName := ⟨"OldBeams", "bestLook", "(I)I"⟩
theorem d_O_bestLook_0 : decode b_O_bestLook 0 = .ok (.iload_n 1, 1) := by decide +kernel
theorem d_O_bestLook_1 : decode b_O_bestLook 1 = .ok (.invokestatic 53, 3) := by decide +kernel
theorem d_O_bestLook_4 : decode b_O_bestLook 4 = .ok (.ifCond .ne 6, 3) := by decide +kernel
theorem d_O_bestLook_7 : decode b_O_bestLook 7 = .ok (.ldc 48, 2) := by decide +kernel
theorem d_O_bestLook_9 : decode b_O_bestLook 9 = .ok (.ireturn, 1) := by decide +kernel
theorem d_O_bestLook_10 : decode b_O_bestLook 10 = .ok (.aload_n 0, 1) := by decide +kernel
theorem d_O_bestLook_11 : decode b_O_bestLook 11 = .ok (.getfield 12, 3) := by decide +kernel
theorem d_O_bestLook_14 : decode b_O_bestLook 14 = .ok (.invokevirtual 148, 3) := by decide +kernel
theorem d_O_bestLook_17 : decode b_O_bestLook 17 = .ok (.ldc 73, 2) := by decide +kernel
theorem d_O_bestLook_19 : decode b_O_bestLook 19 = .ok (.istore_n 2, 1) := by decide +kernel
theorem d_O_bestLook_20 : decode b_O_bestLook 20 = .ok (.aload_n 0, 1) := by decide +kernel
theorem d_O_bestLook_21 : decode b_O_bestLook 21 = .ok (.getfield 30, 3) := by decide +kernel
theorem d_O_bestLook_24 : decode b_O_bestLook 24 = .ok (.lconst 0, 1) := by decide +kernel
theorem d_O_bestLook_25 : decode b_O_bestLook 25 = .ok (.lconst 1, 1) := by decide +kernel
theorem d_O_bestLook_26 : decode b_O_bestLook 26 = .ok (.invokevirtual 274, 3) := by decide +kernel
theorem d_O_bestLook_29 : decode b_O_bestLook 29 = .ok (.iconst 0, 1) := by decide +kernel
theorem d_O_bestLook_30 : decode b_O_bestLook 30 = .ok (.istore_n 3, 1) := by decide +kernel
theorem d_O_bestLook_31 : decode b_O_bestLook 31 = .ok (.iload_n 3, 1) := by decide +kernel
theorem d_O_bestLook_32 : decode b_O_bestLook 32 = .ok (.aload_n 0, 1) := by decide +kernel
theorem d_O_bestLook_33 : decode b_O_bestLook 33 = .ok (.getfield 12, 3) := by decide +kernel
theorem d_O_bestLook_36 : decode b_O_bestLook 36 = .ok (.getfield 57, 3) := by decide +kernel
theorem d_O_bestLook_39 : decode b_O_bestLook 39 = .ok (.if_icmp .ge 88, 3) := by decide +kernel
theorem d_O_bestLook_42 : decode b_O_bestLook 42 = .ok (.aload_n 0, 1) := by decide +kernel
theorem d_O_bestLook_43 : decode b_O_bestLook 43 = .ok (.getfield 12, 3) := by decide +kernel
theorem d_O_bestLook_46 : decode b_O_bestLook 46 = .ok (.iload_n 3, 1) := by decide +kernel
theorem d_O_bestLook_47 : decode b_O_bestLook 47 = .ok (.invokevirtual 109, 3) := by decide +kernel
theorem d_O_bestLook_50 : decode b_O_bestLook 50 = .ok (.ifCond .eq 6, 3) := by decide +kernel
theorem d_O_bestLook_53 : decode b_O_bestLook 53 = .ok (.goto 68, 3) := by decide +kernel
theorem d_O_bestLook_56 : decode b_O_bestLook 56 = .ok (.aload_n 0, 1) := by decide +kernel
theorem d_O_bestLook_57 : decode b_O_bestLook 57 = .ok (.getfield 19, 3) := by decide +kernel
theorem d_O_bestLook_60 : decode b_O_bestLook 60 = .ok (.iload_n 3, 1) := by decide +kernel
theorem d_O_bestLook_61 : decode b_O_bestLook 61 = .ok (.iload_n 1, 1) := by decide +kernel
theorem d_O_bestLook_62 : decode b_O_bestLook 62 = .ok (.invokevirtual 205, 3) := by decide +kernel
theorem d_O_bestLook_65 : decode b_O_bestLook 65 = .ok (.pop, 1) := by decide +kernel
theorem d_O_bestLook_66 : decode b_O_bestLook 66 = .ok (.iconst 0, 1) := by decide +kernel
theorem d_O_bestLook_67 : decode b_O_bestLook 67 = .ok (.istore 4, 2) := by decide +kernel
theorem d_O_bestLook_69 : decode b_O_bestLook 69 = .ok (.iload 4, 2) := by decide +kernel
theorem d_O_bestLook_71 : decode b_O_bestLook 71 = .ok (.iconst 4, 1) := by decide +kernel
theorem d_O_bestLook_72 : decode b_O_bestLook 72 = .ok (.if_icmp .ge 49, 3) := by decide +kernel
theorem d_O_bestLook_75 : decode b_O_bestLook 75 = .ok (.aload_n 0, 1) := by decide +kernel
theorem d_O_bestLook_76 : decode b_O_bestLook 76 = .ok (.iload_n 3, 1) := by decide +kernel
theorem d_O_bestLook_77 : decode b_O_bestLook 77 = .ok (.iload 4, 2) := by decide +kernel
theorem d_O_bestLook_79 : decode b_O_bestLook 79 = .ok (.invokevirtual 270, 3) := by decide +kernel
theorem d_O_bestLook_82 : decode b_O_bestLook 82 = .ok (.aload_n 0, 1) := by decide +kernel
theorem d_O_bestLook_83 : decode b_O_bestLook 83 = .ok (.getfield 30, 3) := by decide +kernel
theorem d_O_bestLook_86 : decode b_O_bestLook 86 = .ok (.aload_n 0, 1) := by decide +kernel
theorem d_O_bestLook_87 : decode b_O_bestLook 87 = .ok (.getfield 26, 3) := by decide +kernel
theorem d_O_bestLook_90 : decode b_O_bestLook 90 = .ok (.invokevirtual 236, 3) := by decide +kernel
theorem d_O_bestLook_93 : decode b_O_bestLook 93 = .ok (.ifCond .eq 22, 3) := by decide +kernel
theorem d_O_bestLook_96 : decode b_O_bestLook 96 = .ok (.bipush 10, 2) := by decide +kernel
theorem d_O_bestLook_98 : decode b_O_bestLook 98 = .ok (.iload_n 3, 1) := by decide +kernel
theorem d_O_bestLook_99 : decode b_O_bestLook 99 = .ok (.imul, 1) := by decide +kernel
theorem d_O_bestLook_100 : decode b_O_bestLook 100 = .ok (.iload 4, 2) := by decide +kernel
theorem d_O_bestLook_102 : decode b_O_bestLook 102 = .ok (.iadd, 1) := by decide +kernel
theorem d_O_bestLook_103 : decode b_O_bestLook 103 = .ok (.istore_n 2, 1) := by decide +kernel
theorem d_O_bestLook_104 : decode b_O_bestLook 104 = .ok (.aload_n 0, 1) := by decide +kernel
theorem d_O_bestLook_105 : decode b_O_bestLook 105 = .ok (.getfield 30, 3) := by decide +kernel
theorem d_O_bestLook_108 : decode b_O_bestLook 108 = .ok (.aload_n 0, 1) := by decide +kernel
theorem d_O_bestLook_109 : decode b_O_bestLook 109 = .ok (.getfield 26, 3) := by decide +kernel
theorem d_O_bestLook_112 : decode b_O_bestLook 112 = .ok (.invokevirtual 240, 3) := by decide +kernel
theorem d_O_bestLook_115 : decode b_O_bestLook 115 = .ok (.iinc 4 1, 3) := by decide +kernel
theorem d_O_bestLook_118 : decode b_O_bestLook 118 = .ok (.goto (-49), 3) := by decide +kernel
theorem d_O_bestLook_121 : decode b_O_bestLook 121 = .ok (.iinc 3 1, 3) := by decide +kernel
theorem d_O_bestLook_124 : decode b_O_bestLook 124 = .ok (.goto (-93), 3) := by decide +kernel
theorem d_O_bestLook_127 : decode b_O_bestLook 127 = .ok (.iload_n 2, 1) := by decide +kernel
theorem d_O_bestLook_128 : decode b_O_bestLook 128 = .ok (.ireturn, 1) := by decide +kernel
abbrev b_O_count : ByteArray := prog_1_method_36_code
abbrev y_O_count : MethodName := ⟨"OldBeams", "count", "(I)I"⟩
theorem d_O_count_0 : decode b_O_count 0 = .ok (.iload_n 1, 1) := by decide +kernel
theorem d_O_count_1 : decode b_O_count 1 = .ok (.tableswitch 100 0 5 #[39, 47, 55, 63, 71, 82], 39) := by decide +kernel
theorem d_O_count_40 : decode b_O_count 40 = .ok (.aload_n 0, 1) := by decide +kernel
theorem d_O_count_41 : decode b_O_count 41 = .ok (.getfield 12, 3) := by decide +kernel
theorem d_O_count_44 : decode b_O_count 44 = .ok (.getfield 57, 3) := by decide +kernel
theorem d_O_count_47 : decode b_O_count 47 = .ok (.ireturn, 1) := by decide +kernel
theorem d_O_count_48 : decode b_O_count 48 = .ok (.aload_n 0, 1) := by decide +kernel
theorem d_O_count_49 : decode b_O_count 49 = .ok (.getfield 12, 3) := by decide +kernel
theorem d_O_count_52 : decode b_O_count 52 = .ok (.invokevirtual 278, 3) := by decide +kernel
theorem d_O_count_55 : decode b_O_count 55 = .ok (.ireturn, 1) := by decide +kernel
theorem d_O_count_56 : decode b_O_count 56 = .ok (.aload_n 0, 1) := by decide +kernel
theorem d_O_count_57 : decode b_O_count 57 = .ok (.getfield 19, 3) := by decide +kernel
theorem d_O_count_60 : decode b_O_count 60 = .ok (.getfield 195, 3) := by decide +kernel
theorem d_O_count_63 : decode b_O_count 63 = .ok (.ireturn, 1) := by decide +kernel
theorem d_O_count_64 : decode b_O_count 64 = .ok (.aload_n 0, 1) := by decide +kernel
theorem d_O_count_65 : decode b_O_count 65 = .ok (.getfield 12, 3) := by decide +kernel
theorem d_O_count_68 : decode b_O_count 68 = .ok (.getfield 251, 3) := by decide +kernel
theorem d_O_count_71 : decode b_O_count 71 = .ok (.ireturn, 1) := by decide +kernel
theorem d_O_count_72 : decode b_O_count 72 = .ok (.aload_n 0, 1) := by decide +kernel
theorem d_O_count_73 : decode b_O_count 73 = .ok (.getfield 12, 3) := by decide +kernel
theorem d_O_count_76 : decode b_O_count 76 = .ok (.getfield 260, 3) := by decide +kernel
theorem d_O_count_79 : decode b_O_count 79 = .ok (.invokestatic 139, 3) := by decide +kernel
theorem d_O_count_82 : decode b_O_count 82 = .ok (.ireturn, 1) := by decide +kernel
theorem d_O_count_83 : decode b_O_count 83 = .ok (.aload_n 0, 1) := by decide +kernel
theorem d_O_count_84 : decode b_O_count 84 = .ok (.getfield 12, 3) := by decide +kernel
theorem d_O_count_87 : decode b_O_count 87 = .ok (.aload_n 0, 1) := by decide +kernel
theorem d_O_count_88 : decode b_O_count 88 = .ok (.getfield 12, 3) := by decide +kernel
theorem d_O_count_91 : decode b_O_count 91 = .ok (.getfield 130, 3) := by decide +kernel
theorem d_O_count_94 : decode b_O_count 94 = .ok (.invokevirtual 136, 3) := by decide +kernel
theorem d_O_count_97 : decode b_O_count 97 = .ok (.invokestatic 139, 3) := by decide +kernel
theorem d_O_count_100 : decode b_O_count 100 = .ok (.ireturn, 1) := by decide +kernel
theorem d_O_count_101 : decode b_O_count 101 = .ok (.ldc 48, 2) := by decide +kernel
theorem d_O_count_103 : decode b_O_count 103 = .ok (.ireturn, 1) := by decide +kernel
end
section
abbrev b_M_init : ByteArray := prog_7_method_1_code
abbrev y_M_init : MethodName := ⟨"OldBeamsModel", "<init>", "()V"⟩
theorem d_M_init_0 : decode b_M_init 0 = .ok (.aload_n 0, 1) := by decide +kernel
theorem d_M_init_1 : decode b_M_init 1 = .ok (.invokespecial 1, 3) := by decide +kernel
theorem d_M_init_4 : decode b_M_init 4 = .ok (.aload_n 0, 1) := by decide +kernel
theorem d_M_init_5 : decode b_M_init 5 = .ok (.iconst 4, 1) := by decide +kernel
theorem d_M_init_6 : decode b_M_init 6 = .ok (.newarray .int, 2) := by decide +kernel
theorem d_M_init_8 : decode b_M_init 8 = .ok (.putfield 7, 3) := by decide +kernel
theorem d_M_init_11 : decode b_M_init 11 = .ok (.aload_n 0, 1) := by decide +kernel
theorem d_M_init_12 : decode b_M_init 12 = .ok (.bipush 8, 2) := by decide +kernel
theorem d_M_init_14 : decode b_M_init 14 = .ok (.newarray .int, 2) := by decide +kernel
theorem d_M_init_16 : decode b_M_init 16 = .ok (.putfield 13, 3) := by decide +kernel
theorem d_M_init_19 : decode b_M_init 19 = .ok (.aload_n 0, 1) := by decide +kernel
theorem d_M_init_20 : decode b_M_init 20 = .ok (.bipush 12, 2) := by decide +kernel
theorem d_M_init_22 : decode b_M_init 22 = .ok (.newarray .int, 2) := by decide +kernel
theorem d_M_init_24 : decode b_M_init 24 = .ok (.putfield 16, 3) := by decide +kernel
theorem d_M_init_27 : decode b_M_init 27 = .ok (.aload_n 0, 1) := by decide +kernel
theorem d_M_init_28 : decode b_M_init 28 = .ok (.bipush 12, 2) := by decide +kernel
theorem d_M_init_30 : decode b_M_init 30 = .ok (.newarray .int, 2) := by decide +kernel
theorem d_M_init_32 : decode b_M_init 32 = .ok (.putfield 19, 3) := by decide +kernel
theorem d_M_init_35 : decode b_M_init 35 = .ok (.aload_n 0, 1) := by decide +kernel
theorem d_M_init_36 : decode b_M_init 36 = .ok (.bipush 12, 2) := by decide +kernel
theorem d_M_init_38 : decode b_M_init 38 = .ok (.newarray .int, 2) := by decide +kernel
theorem d_M_init_40 : decode b_M_init 40 = .ok (.putfield 22, 3) := by decide +kernel
theorem d_M_init_43 : decode b_M_init 43 = .ok (.aload_n 0, 1) := by decide +kernel
theorem d_M_init_44 : decode b_M_init 44 = .ok (.bipush 12, 2) := by decide +kernel
theorem d_M_init_46 : decode b_M_init 46 = .ok (.newarray .int, 2) := by decide +kernel
theorem d_M_init_48 : decode b_M_init 48 = .ok (.putfield 25, 3) := by decide +kernel
theorem d_M_init_51 : decode b_M_init 51 = .ok (.aload_n 0, 1) := by decide +kernel
theorem d_M_init_52 : decode b_M_init 52 = .ok (.bipush 12, 2) := by decide +kernel
theorem d_M_init_54 : decode b_M_init 54 = .ok (.newarray .boolean, 2) := by decide +kernel
theorem d_M_init_56 : decode b_M_init 56 = .ok (.putfield 28, 3) := by decide +kernel
theorem d_M_init_59 : decode b_M_init 59 = .ok (.aload_n 0, 1) := by decide +kernel
theorem d_M_init_60 : decode b_M_init 60 = .ok (.bipush 12, 2) := by decide +kernel
theorem d_M_init_62 : decode b_M_init 62 = .ok (.newarray .boolean, 2) := by decide +kernel
theorem d_M_init_64 : decode b_M_init 64 = .ok (.putfield 32, 3) := by decide +kernel
theorem d_M_init_67 : decode b_M_init 67 = .ok (.aload_n 0, 1) := by decide +kernel
theorem d_M_init_68 : decode b_M_init 68 = .ok (.bipush 24, 2) := by decide +kernel
theorem d_M_init_70 : decode b_M_init 70 = .ok (.newarray .int, 2) := by decide +kernel
theorem d_M_init_72 : decode b_M_init 72 = .ok (.putfield 35, 3) := by decide +kernel
theorem d_M_init_75 : decode b_M_init 75 = .ok (.aload_n 0, 1) := by decide +kernel
theorem d_M_init_76 : decode b_M_init 76 = .ok (.bipush 24, 2) := by decide +kernel
theorem d_M_init_78 : decode b_M_init 78 = .ok (.newarray .int, 2) := by decide +kernel
theorem d_M_init_80 : decode b_M_init 80 = .ok (.putfield 38, 3) := by decide +kernel
theorem d_M_init_83 : decode b_M_init 83 = .ok (.aload_n 0, 1) := by decide +kernel
theorem d_M_init_84 : decode b_M_init 84 = .ok (.bipush 24, 2) := by decide +kernel
theorem d_M_init_86 : decode b_M_init 86 = .ok (.newarray .int, 2) := by decide +kernel
theorem d_M_init_88 : decode b_M_init 88 = .ok (.putfield 41, 3) := by decide +kernel
theorem d_M_init_91 : decode b_M_init 91 = .ok (.aload_n 0, 1) := by decide +kernel
theorem d_M_init_92 : decode b_M_init 92 = .ok (.bipush 40, 2) := by decide +kernel
theorem d_M_init_94 : decode b_M_init 94 = .ok (.newarray .int, 2) := by decide +kernel
theorem d_M_init_96 : decode b_M_init 96 = .ok (.putfield 44, 3) := by decide +kernel
theorem d_M_init_99 : decode b_M_init 99 = .ok (.aload_n 0, 1) := by decide +kernel
theorem d_M_init_100 : decode b_M_init 100 = .ok (.bipush 40, 2) := by decide +kernel
theorem d_M_init_102 : decode b_M_init 102 = .ok (.newarray .int, 2) := by decide +kernel
theorem d_M_init_104 : decode b_M_init 104 = .ok (.putfield 47, 3) := by decide +kernel
theorem d_M_init_107 : decode b_M_init 107 = .ok (.aload_n 0, 1) := by decide +kernel
theorem d_M_init_108 : decode b_M_init 108 = .ok (.bipush 40, 2) := by decide +kernel
theorem d_M_init_110 : decode b_M_init 110 = .ok (.newarray .int, 2) := by decide +kernel
theorem d_M_init_112 : decode b_M_init 112 = .ok (.putfield 50, 3) := by decide +kernel
theorem d_M_init_115 : decode b_M_init 115 = .ok (.aload_n 0, 1) := by decide +kernel
theorem d_M_init_116 : decode b_M_init 116 = .ok (.bipush 40, 2) := by decide +kernel
theorem d_M_init_118 : decode b_M_init 118 = .ok (.newarray .boolean, 2) := by decide +kernel
theorem d_M_init_120 : decode b_M_init 120 = .ok (.putfield 53, 3) := by decide +kernel
theorem d_M_init_123 : decode b_M_init 123 = .ok (.aload_n 0, 1) := by decide +kernel
theorem d_M_init_124 : decode b_M_init 124 = .ok (.bipush 8, 2) := by decide +kernel
theorem d_M_init_126 : decode b_M_init 126 = .ok (.newarray .int, 2) := by decide +kernel
theorem d_M_init_128 : decode b_M_init 128 = .ok (.putfield 56, 3) := by decide +kernel
theorem d_M_init_131 : decode b_M_init 131 = .ok (.aload_n 0, 1) := by decide +kernel
theorem d_M_init_132 : decode b_M_init 132 = .ok (.bipush 8, 2) := by decide +kernel
theorem d_M_init_134 : decode b_M_init 134 = .ok (.newarray .int, 2) := by decide +kernel
theorem d_M_init_136 : decode b_M_init 136 = .ok (.putfield 59, 3) := by decide +kernel
theorem d_M_init_139 : decode b_M_init 139 = .ok (.aload_n 0, 1) := by decide +kernel
theorem d_M_init_140 : decode b_M_init 140 = .ok (.bipush 8, 2) := by decide +kernel
theorem d_M_init_142 : decode b_M_init 142 = .ok (.newarray .int, 2) := by decide +kernel
theorem d_M_init_144 : decode b_M_init 144 = .ok (.putfield 62, 3) := by decide +kernel
theorem d_M_init_147 : decode b_M_init 147 = .ok (.aload_n 0, 1) := by decide +kernel
theorem d_M_init_148 : decode b_M_init 148 = .ok (.bipush 8, 2) := by decide +kernel
theorem d_M_init_150 : decode b_M_init 150 = .ok (.newarray .boolean, 2) := by decide +kernel
theorem d_M_init_152 : decode b_M_init 152 = .ok (.putfield 65, 3) := by decide +kernel
theorem d_M_init_155 : decode b_M_init 155 = .ok (.aload_n 0, 1) := by decide +kernel
theorem d_M_init_156 : decode b_M_init 156 = .ok (.bipush 12, 2) := by decide +kernel
theorem d_M_init_158 : decode b_M_init 158 = .ok (.newarray .boolean, 2) := by decide +kernel
theorem d_M_init_160 : decode b_M_init 160 = .ok (.putfield 68, 3) := by decide +kernel
theorem d_M_init_163 : decode b_M_init 163 = .ok (.aload_n 0, 1) := by decide +kernel
theorem d_M_init_164 : decode b_M_init 164 = .ok (.bipush 8, 2) := by decide +kernel
theorem d_M_init_166 : decode b_M_init 166 = .ok (.newarray .boolean, 2) := by decide +kernel
theorem d_M_init_168 : decode b_M_init 168 = .ok (.putfield 71, 3) := by decide +kernel
theorem d_M_init_171 : decode b_M_init 171 = .ok (.aload_n 0, 1) := by decide +kernel
theorem d_M_init_172 : decode b_M_init 172 = .ok (.bipush 12, 2) := by decide +kernel
theorem d_M_init_174 : decode b_M_init 174 = .ok (.newarray .boolean, 2) := by decide +kernel
theorem d_M_init_176 : decode b_M_init 176 = .ok (.putfield 74, 3) := by decide +kernel
theorem d_M_init_179 : decode b_M_init 179 = .ok (.aload_n 0, 1) := by decide +kernel
theorem d_M_init_180 : decode b_M_init 180 = .ok (.sipush 732, 3) := by decide +kernel
theorem d_M_init_183 : decode b_M_init 183 = .ok (.newarray .long, 2) := by decide +kernel
theorem d_M_init_185 : decode b_M_init 185 = .ok (.putfield 77, 3) := by decide +kernel
theorem d_M_init_188 : decode b_M_init 188 = .ok (.aload_n 0, 1) := by decide +kernel
theorem d_M_init_189 : decode b_M_init 189 = .ok (.bipush 24, 2) := by decide +kernel
theorem d_M_init_191 : decode b_M_init 191 = .ok (.newarray .long, 2) := by decide +kernel
theorem d_M_init_193 : decode b_M_init 193 = .ok (.putfield 81, 3) := by decide +kernel
theorem d_M_init_196 : decode b_M_init 196 = .ok (.aload_n 0, 1) := by decide +kernel
theorem d_M_init_197 : decode b_M_init 197 = .ok (.bipush 12, 2) := by decide +kernel
theorem d_M_init_199 : decode b_M_init 199 = .ok (.newarray .long, 2) := by decide +kernel
theorem d_M_init_201 : decode b_M_init 201 = .ok (.putfield 84, 3) := by decide +kernel
theorem d_M_init_204 : decode b_M_init 204 = .ok (.aload_n 0, 1) := by decide +kernel
theorem d_M_init_205 : decode b_M_init 205 = .ok (.bipush 12, 2) := by decide +kernel
theorem d_M_init_207 : decode b_M_init 207 = .ok (.newarray .int, 2) := by decide +kernel
theorem d_M_init_209 : decode b_M_init 209 = .ok (.putfield 87, 3) := by decide +kernel
theorem d_M_init_212 : decode b_M_init 212 = .ok (.aload_n 0, 1) := by decide +kernel
theorem d_M_init_213 : decode b_M_init 213 = .ok (.sipush 132, 3) := by decide +kernel
theorem d_M_init_216 : decode b_M_init 216 = .ok (.newarray .int, 2) := by decide +kernel
theorem d_M_init_218 : decode b_M_init 218 = .ok (.putfield 90, 3) := by decide +kernel
theorem d_M_init_221 : decode b_M_init 221 = .ok (.aload_n 0, 1) := by decide +kernel
theorem d_M_init_222 : decode b_M_init 222 = .ok (.bipush 44, 2) := by decide +kernel
theorem d_M_init_224 : decode b_M_init 224 = .ok (.newarray .int, 2) := by decide +kernel
theorem d_M_init_226 : decode b_M_init 226 = .ok (.putfield 93, 3) := by decide +kernel
theorem d_M_init_229 : decode b_M_init 229 = .ok (.aload_n 0, 1) := by decide +kernel
theorem d_M_init_230 : decode b_M_init 230 = .ok (.bipush 60, 2) := by decide +kernel
theorem d_M_init_232 : decode b_M_init 232 = .ok (.newarray .int, 2) := by decide +kernel
theorem d_M_init_234 : decode b_M_init 234 = .ok (.putfield 96, 3) := by decide +kernel
theorem d_M_init_237 : decode b_M_init 237 = .ok (.aload_n 0, 1) := by decide +kernel
theorem d_M_init_238 : decode b_M_init 238 = .ok (.bipush 60, 2) := by decide +kernel
theorem d_M_init_240 : decode b_M_init 240 = .ok (.newarray .int, 2) := by decide +kernel
theorem d_M_init_242 : decode b_M_init 242 = .ok (.putfield 99, 3) := by decide +kernel
theorem d_M_init_245 : decode b_M_init 245 = .ok (.aload_n 0, 1) := by decide +kernel
theorem d_M_init_246 : decode b_M_init 246 = .ok (.bipush 60, 2) := by decide +kernel
theorem d_M_init_248 : decode b_M_init 248 = .ok (.newarray .int, 2) := by decide +kernel
theorem d_M_init_250 : decode b_M_init 250 = .ok (.putfield 102, 3) := by decide +kernel
theorem d_M_init_253 : decode b_M_init 253 = .ok (.aload_n 0, 1) := by decide +kernel
theorem d_M_init_254 : decode b_M_init 254 = .ok (.bipush 60, 2) := by decide +kernel
theorem d_M_init_256 : decode b_M_init 256 = .ok (.newarray .int, 2) := by decide +kernel
theorem d_M_init_258 : decode b_M_init 258 = .ok (.putfield 105, 3) := by decide +kernel
theorem d_M_init_261 : decode b_M_init 261 = .ok (.aload_n 0, 1) := by decide +kernel
theorem d_M_init_262 : decode b_M_init 262 = .ok (.bipush 11, 2) := by decide +kernel
theorem d_M_init_264 : decode b_M_init 264 = .ok (.newarray .long, 2) := by decide +kernel
theorem d_M_init_266 : decode b_M_init 266 = .ok (.putfield 108, 3) := by decide +kernel
theorem d_M_init_269 : decode b_M_init 269 = .ok (.aload_n 0, 1) := by decide +kernel
theorem d_M_init_270 : decode b_M_init 270 = .ok (.bipush 11, 2) := by decide +kernel
theorem d_M_init_272 : decode b_M_init 272 = .ok (.newarray .long, 2) := by decide +kernel
theorem d_M_init_274 : decode b_M_init 274 = .ok (.putfield 111, 3) := by decide +kernel
theorem d_M_init_277 : decode b_M_init 277 = .ok (.aload_n 0, 1) := by decide +kernel
theorem d_M_init_278 : decode b_M_init 278 = .ok (.bipush 12, 2) := by decide +kernel
theorem d_M_init_280 : decode b_M_init 280 = .ok (.newarray .int, 2) := by decide +kernel
theorem d_M_init_282 : decode b_M_init 282 = .ok (.putfield 114, 3) := by decide +kernel
theorem d_M_init_285 : decode b_M_init 285 = .ok (.aload_n 0, 1) := by decide +kernel
theorem d_M_init_286 : decode b_M_init 286 = .ok (.bipush 100, 2) := by decide +kernel
theorem d_M_init_288 : decode b_M_init 288 = .ok (.putfield 117, 3) := by decide +kernel
theorem d_M_init_291 : decode b_M_init 291 = .ok (.aload_n 0, 1) := by decide +kernel
theorem d_M_init_292 : decode b_M_init 292 = .ok (.sipush 1000, 3) := by decide +kernel
theorem d_M_init_295 : decode b_M_init 295 = .ok (.putfield 121, 3) := by decide +kernel
theorem d_M_init_298 : decode b_M_init 298 = .ok (.iconst 0, 1) := by decide +kernel
theorem d_M_init_299 : decode b_M_init 299 = .ok (.istore_n 1, 1) := by decide +kernel
theorem d_M_init_300 : decode b_M_init 300 = .ok (.iload_n 1, 1) := by decide +kernel
theorem d_M_init_301 : decode b_M_init 301 = .ok (.iconst 4, 1) := by decide +kernel
theorem d_M_init_302 : decode b_M_init 302 = .ok (.if_icmp .ge 28, 3) := by decide +kernel
theorem d_M_init_305 : decode b_M_init 305 = .ok (.aload_n 0, 1) := by decide +kernel
theorem d_M_init_306 : decode b_M_init 306 = .ok (.getfield 7, 3) := by decide +kernel
theorem d_M_init_309 : decode b_M_init 309 = .ok (.iload_n 1, 1) := by decide +kernel
theorem d_M_init_310 : decode b_M_init 310 = .ok (.bipush 100, 2) := by decide +kernel
theorem d_M_init_312 : decode b_M_init 312 = .ok (.iastore, 1) := by decide +kernel
theorem d_M_init_313 : decode b_M_init 313 = .ok (.aload_n 0, 1) := by decide +kernel
theorem d_M_init_314 : decode b_M_init 314 = .ok (.getfield 13, 3) := by decide +kernel
theorem d_M_init_317 : decode b_M_init 317 = .ok (.iconst 2, 1) := by decide +kernel
theorem d_M_init_318 : decode b_M_init 318 = .ok (.iload_n 1, 1) := by decide +kernel
theorem d_M_init_319 : decode b_M_init 319 = .ok (.imul, 1) := by decide +kernel
theorem d_M_init_320 : decode b_M_init 320 = .ok (.iconst 1, 1) := by decide +kernel
theorem d_M_init_321 : decode b_M_init 321 = .ok (.iadd, 1) := by decide +kernel
theorem d_M_init_322 : decode b_M_init 322 = .ok (.iconst 1, 1) := by decide +kernel
theorem d_M_init_323 : decode b_M_init 323 = .ok (.iastore, 1) := by decide +kernel
theorem d_M_init_324 : decode b_M_init 324 = .ok (.iinc 1 1, 3) := by decide +kernel
theorem d_M_init_327 : decode b_M_init 327 = .ok (.goto (-27), 3) := by decide +kernel
theorem d_M_init_330 : decode b_M_init 330 = .ok (.return_, 1) := by decide +kernel
abbrev b_M_kind : ByteArray := prog_7_method_8_code
abbrev y_M_kind : MethodName := ⟨"OldBeamsModel", "kind", "(III)I"⟩
theorem d_M_kind_0 : decode b_M_kind 0 = .ok (.iload_n 1, 1) := by decide +kernel
theorem d_M_kind_1 : decode b_M_kind 1 = .ok (.i2l, 1) := by decide +kernel
theorem d_M_kind_2 : decode b_M_kind 2 = .ok (.lconst 0, 1) := by decide +kernel
theorem d_M_kind_3 : decode b_M_kind 3 = .ok (.ldc2_w 134, 3) := by decide +kernel
theorem d_M_kind_6 : decode b_M_kind 6 = .ok (.invokestatic 126, 3) := by decide +kernel
theorem d_M_kind_9 : decode b_M_kind 9 = .ok (.ifCond .ne 6, 3) := by decide +kernel
theorem d_M_kind_12 : decode b_M_kind 12 = .ok (.ldc 136, 2) := by decide +kernel
theorem d_M_kind_14 : decode b_M_kind 14 = .ok (.ireturn, 1) := by decide +kernel
theorem d_M_kind_15 : decode b_M_kind 15 = .ok (.iload_n 2, 1) := by decide +kernel
theorem d_M_kind_16 : decode b_M_kind 16 = .ok (.ifCond .ne 15, 3) := by decide +kernel
theorem d_M_kind_19 : decode b_M_kind 19 = .ok (.iload_n 3, 1) := by decide +kernel
theorem d_M_kind_20 : decode b_M_kind 20 = .ok (.i2l, 1) := by decide +kernel
theorem d_M_kind_21 : decode b_M_kind 21 = .ok (.lconst 1, 1) := by decide +kernel
theorem d_M_kind_22 : decode b_M_kind 22 = .ok (.ldc2_w 137, 3) := by decide +kernel
theorem d_M_kind_25 : decode b_M_kind 25 = .ok (.invokestatic 126, 3) := by decide +kernel
theorem d_M_kind_28 : decode b_M_kind 28 = .ok (.ifCond .ne 30, 3) := by decide +kernel
theorem d_M_kind_31 : decode b_M_kind 31 = .ok (.iload_n 2, 1) := by decide +kernel
theorem d_M_kind_32 : decode b_M_kind 32 = .ok (.i2l, 1) := by decide +kernel
theorem d_M_kind_33 : decode b_M_kind 33 = .ok (.lconst 1, 1) := by decide +kernel
theorem d_M_kind_34 : decode b_M_kind 34 = .ok (.ldc2_w 139, 3) := by decide +kernel
theorem d_M_kind_37 : decode b_M_kind 37 = .ok (.invokestatic 126, 3) := by decide +kernel
theorem d_M_kind_40 : decode b_M_kind 40 = .ok (.ifCond .eq 15, 3) := by decide +kernel
theorem d_M_kind_43 : decode b_M_kind 43 = .ok (.iload_n 3, 1) := by decide +kernel
theorem d_M_kind_44 : decode b_M_kind 44 = .ok (.i2l, 1) := by decide +kernel
theorem d_M_kind_45 : decode b_M_kind 45 = .ok (.lconst 0, 1) := by decide +kernel
theorem d_M_kind_46 : decode b_M_kind 46 = .ok (.ldc2_w 141, 3) := by decide +kernel
theorem d_M_kind_49 : decode b_M_kind 49 = .ok (.invokestatic 126, 3) := by decide +kernel
theorem d_M_kind_52 : decode b_M_kind 52 = .ok (.ifCond .ne 6, 3) := by decide +kernel
theorem d_M_kind_55 : decode b_M_kind 55 = .ok (.ldc 143, 2) := by decide +kernel
theorem d_M_kind_57 : decode b_M_kind 57 = .ok (.ireturn, 1) := by decide +kernel
theorem d_M_kind_58 : decode b_M_kind 58 = .ok (.iload_n 2, 1) := by decide +kernel
theorem d_M_kind_59 : decode b_M_kind 59 = .ok (.ifCond .ne 21, 3) := by decide +kernel
theorem d_M_kind_62 : decode b_M_kind 62 = .ok (.aload_n 0, 1) := by decide +kernel
theorem d_M_kind_63 : decode b_M_kind 63 = .ok (.getfield 7, 3) := by decide +kernel
theorem d_M_kind_66 : decode b_M_kind 66 = .ok (.iload_n 1, 1) := by decide +kernel
theorem d_M_kind_67 : decode b_M_kind 67 = .ok (.iaload, 1) := by decide +kernel
theorem d_M_kind_68 : decode b_M_kind 68 = .ok (.istore 4, 2) := by decide +kernel
theorem d_M_kind_70 : decode b_M_kind 70 = .ok (.aload_n 0, 1) := by decide +kernel
theorem d_M_kind_71 : decode b_M_kind 71 = .ok (.getfield 7, 3) := by decide +kernel
theorem d_M_kind_74 : decode b_M_kind 74 = .ok (.iload_n 1, 1) := by decide +kernel
theorem d_M_kind_75 : decode b_M_kind 75 = .ok (.iload_n 3, 1) := by decide +kernel
theorem d_M_kind_76 : decode b_M_kind 76 = .ok (.iastore, 1) := by decide +kernel
theorem d_M_kind_77 : decode b_M_kind 77 = .ok (.iload 4, 2) := by decide +kernel
theorem d_M_kind_79 : decode b_M_kind 79 = .ok (.ireturn, 1) := by decide +kernel
theorem d_M_kind_80 : decode b_M_kind 80 = .ok (.aload_n 0, 1) := by decide +kernel
theorem d_M_kind_81 : decode b_M_kind 81 = .ok (.getfield 13, 3) := by decide +kernel
theorem d_M_kind_84 : decode b_M_kind 84 = .ok (.iconst 2, 1) := by decide +kernel
theorem d_M_kind_85 : decode b_M_kind 85 = .ok (.iload_n 1, 1) := by decide +kernel
theorem d_M_kind_86 : decode b_M_kind 86 = .ok (.imul, 1) := by decide +kernel
theorem d_M_kind_87 : decode b_M_kind 87 = .ok (.iload_n 2, 1) := by decide +kernel
theorem d_M_kind_88 : decode b_M_kind 88 = .ok (.iadd, 1) := by decide +kernel
theorem d_M_kind_89 : decode b_M_kind 89 = .ok (.iconst 1, 1) := by decide +kernel
theorem d_M_kind_90 : decode b_M_kind 90 = .ok (.isub, 1) := by decide +kernel
theorem d_M_kind_91 : decode b_M_kind 91 = .ok (.iaload, 1) := by decide +kernel
theorem d_M_kind_92 : decode b_M_kind 92 = .ok (.istore 4, 2) := by decide +kernel
theorem d_M_kind_94 : decode b_M_kind 94 = .ok (.aload_n 0, 1) := by decide +kernel
theorem d_M_kind_95 : decode b_M_kind 95 = .ok (.getfield 13, 3) := by decide +kernel
theorem d_M_kind_98 : decode b_M_kind 98 = .ok (.iconst 2, 1) := by decide +kernel
theorem d_M_kind_99 : decode b_M_kind 99 = .ok (.iload_n 1, 1) := by decide +kernel
theorem d_M_kind_100 : decode b_M_kind 100 = .ok (.imul, 1) := by decide +kernel
theorem d_M_kind_101 : decode b_M_kind 101 = .ok (.iload_n 2, 1) := by decide +kernel
theorem d_M_kind_102 : decode b_M_kind 102 = .ok (.iadd, 1) := by decide +kernel
theorem d_M_kind_103 : decode b_M_kind 103 = .ok (.iconst 1, 1) := by decide +kernel
theorem d_M_kind_104 : decode b_M_kind 104 = .ok (.isub, 1) := by decide +kernel
theorem d_M_kind_105 : decode b_M_kind 105 = .ok (.iload_n 3, 1) := by decide +kernel
theorem d_M_kind_106 : decode b_M_kind 106 = .ok (.iastore, 1) := by decide +kernel
theorem d_M_kind_107 : decode b_M_kind 107 = .ok (.iload 4, 2) := by decide +kernel
theorem d_M_kind_109 : decode b_M_kind 109 = .ok (.ireturn, 1) := by decide +kernel
abbrev b_M_in : ByteArray := prog_7_method_3_code
abbrev y_M_in : MethodName := ⟨"OldBeamsModel", "in", "(JJJ)Z"⟩
theorem d_M_in_0 : decode b_M_in 0 = .ok (.lload_n 0, 1) := by decide +kernel
theorem d_M_in_1 : decode b_M_in 1 = .ok (.lload_n 2, 1) := by decide +kernel
theorem d_M_in_2 : decode b_M_in 2 = .ok (.lcmp, 1) := by decide +kernel
theorem d_M_in_3 : decode b_M_in 3 = .ok (.ifCond .lt 14, 3) := by decide +kernel
theorem d_M_in_6 : decode b_M_in 6 = .ok (.lload_n 0, 1) := by decide +kernel
theorem d_M_in_7 : decode b_M_in 7 = .ok (.lload 4, 2) := by decide +kernel
theorem d_M_in_9 : decode b_M_in 9 = .ok (.lcmp, 1) := by decide +kernel
theorem d_M_in_10 : decode b_M_in 10 = .ok (.ifCond .gt 7, 3) := by decide +kernel
theorem d_M_in_13 : decode b_M_in 13 = .ok (.iconst 1, 1) := by decide +kernel
theorem d_M_in_14 : decode b_M_in 14 = .ok (.goto 4, 3) := by decide +kernel
theorem d_M_in_17 : decode b_M_in 17 = .ok (.iconst 0, 1) := by decide +kernel
theorem d_M_in_18 : decode b_M_in 18 = .ok (.ireturn, 1) := by decide +kernel
abbrev b_M_beam : ByteArray := prog_7_method_10_code
abbrev y_M_beam : MethodName := ⟨"OldBeamsModel", "beam", "(IIIII)I"⟩
theorem d_M_beam_0 : decode b_M_beam 0 = .ok (.iload_n 1, 1) := by decide +kernel
theorem d_M_beam_1 : decode b_M_beam 1 = .ok (.i2l, 1) := by decide +kernel
theorem d_M_beam_2 : decode b_M_beam 2 = .ok (.lconst 0, 1) := by decide +kernel
theorem d_M_beam_3 : decode b_M_beam 3 = .ok (.ldc2_w 134, 3) := by decide +kernel
theorem d_M_beam_6 : decode b_M_beam 6 = .ok (.invokestatic 126, 3) := by decide +kernel
theorem d_M_beam_9 : decode b_M_beam 9 = .ok (.ifCond .ne 6, 3) := by decide +kernel
theorem d_M_beam_12 : decode b_M_beam 12 = .ok (.ldc 136, 2) := by decide +kernel
theorem d_M_beam_14 : decode b_M_beam 14 = .ok (.ireturn, 1) := by decide +kernel
theorem d_M_beam_15 : decode b_M_beam 15 = .ok (.iload_n 2, 1) := by decide +kernel
theorem d_M_beam_16 : decode b_M_beam 16 = .ok (.i2l, 1) := by decide +kernel
theorem d_M_beam_17 : decode b_M_beam 17 = .ok (.ldc2_w 139, 3) := by decide +kernel
theorem d_M_beam_20 : decode b_M_beam 20 = .ok (.ldc2_w 147, 3) := by decide +kernel
theorem d_M_beam_23 : decode b_M_beam 23 = .ok (.invokestatic 126, 3) := by decide +kernel
theorem d_M_beam_26 : decode b_M_beam 26 = .ok (.ifCond .eq 36, 3) := by decide +kernel
theorem d_M_beam_29 : decode b_M_beam 29 = .ok (.iload_n 3, 1) := by decide +kernel
theorem d_M_beam_30 : decode b_M_beam 30 = .ok (.i2l, 1) := by decide +kernel
theorem d_M_beam_31 : decode b_M_beam 31 = .ok (.lconst 1, 1) := by decide +kernel
theorem d_M_beam_32 : decode b_M_beam 32 = .ok (.ldc2_w 149, 3) := by decide +kernel
theorem d_M_beam_35 : decode b_M_beam 35 = .ok (.invokestatic 126, 3) := by decide +kernel
theorem d_M_beam_38 : decode b_M_beam 38 = .ok (.ifCond .eq 24, 3) := by decide +kernel
theorem d_M_beam_41 : decode b_M_beam 41 = .ok (.iload 4, 2) := by decide +kernel
theorem d_M_beam_43 : decode b_M_beam 43 = .ok (.i2l, 1) := by decide +kernel
theorem d_M_beam_44 : decode b_M_beam 44 = .ok (.lconst 1, 1) := by decide +kernel
theorem d_M_beam_45 : decode b_M_beam 45 = .ok (.ldc2_w 149, 3) := by decide +kernel
theorem d_M_beam_48 : decode b_M_beam 48 = .ok (.invokestatic 126, 3) := by decide +kernel
theorem d_M_beam_51 : decode b_M_beam 51 = .ok (.ifCond .eq 11, 3) := by decide +kernel
theorem d_M_beam_54 : decode b_M_beam 54 = .ok (.iload 5, 2) := by decide +kernel
theorem d_M_beam_56 : decode b_M_beam 56 = .ok (.invokestatic 151, 3) := by decide +kernel
theorem d_M_beam_59 : decode b_M_beam 59 = .ok (.ifCond .ne 6, 3) := by decide +kernel
theorem d_M_beam_62 : decode b_M_beam 62 = .ok (.ldc 143, 2) := by decide +kernel
theorem d_M_beam_64 : decode b_M_beam 64 = .ok (.ireturn, 1) := by decide +kernel
theorem d_M_beam_65 : decode b_M_beam 65 = .ok (.aload_n 0, 1) := by decide +kernel
theorem d_M_beam_66 : decode b_M_beam 66 = .ok (.getfield 144, 3) := by decide +kernel
theorem d_M_beam_69 : decode b_M_beam 69 = .ok (.bipush 12, 2) := by decide +kernel
theorem d_M_beam_71 : decode b_M_beam 71 = .ok (.if_icmp .ne 6, 3) := by decide +kernel
theorem d_M_beam_74 : decode b_M_beam 74 = .ok (.ldc 155, 2) := by decide +kernel
theorem d_M_beam_76 : decode b_M_beam 76 = .ok (.ireturn, 1) := by decide +kernel
theorem d_M_beam_77 : decode b_M_beam 77 = .ok (.aload_n 0, 1) := by decide +kernel
theorem d_M_beam_78 : decode b_M_beam 78 = .ok (.getfield 16, 3) := by decide +kernel
theorem d_M_beam_81 : decode b_M_beam 81 = .ok (.aload_n 0, 1) := by decide +kernel
theorem d_M_beam_82 : decode b_M_beam 82 = .ok (.getfield 144, 3) := by decide +kernel
theorem d_M_beam_85 : decode b_M_beam 85 = .ok (.iload_n 1, 1) := by decide +kernel
theorem d_M_beam_86 : decode b_M_beam 86 = .ok (.iastore, 1) := by decide +kernel
theorem d_M_beam_87 : decode b_M_beam 87 = .ok (.aload_n 0, 1) := by decide +kernel
theorem d_M_beam_88 : decode b_M_beam 88 = .ok (.getfield 19, 3) := by decide +kernel
theorem d_M_beam_91 : decode b_M_beam 91 = .ok (.aload_n 0, 1) := by decide +kernel
theorem d_M_beam_92 : decode b_M_beam 92 = .ok (.getfield 144, 3) := by decide +kernel
theorem d_M_beam_95 : decode b_M_beam 95 = .ok (.iload_n 2, 1) := by decide +kernel
theorem d_M_beam_96 : decode b_M_beam 96 = .ok (.iastore, 1) := by decide +kernel
theorem d_M_beam_97 : decode b_M_beam 97 = .ok (.aload_n 0, 1) := by decide +kernel
theorem d_M_beam_98 : decode b_M_beam 98 = .ok (.getfield 22, 3) := by decide +kernel
theorem d_M_beam_101 : decode b_M_beam 101 = .ok (.aload_n 0, 1) := by decide +kernel
theorem d_M_beam_102 : decode b_M_beam 102 = .ok (.getfield 144, 3) := by decide +kernel
theorem d_M_beam_105 : decode b_M_beam 105 = .ok (.iload_n 3, 1) := by decide +kernel
theorem d_M_beam_106 : decode b_M_beam 106 = .ok (.iastore, 1) := by decide +kernel
theorem d_M_beam_107 : decode b_M_beam 107 = .ok (.aload_n 0, 1) := by decide +kernel
theorem d_M_beam_108 : decode b_M_beam 108 = .ok (.getfield 25, 3) := by decide +kernel
theorem d_M_beam_111 : decode b_M_beam 111 = .ok (.aload_n 0, 1) := by decide +kernel
theorem d_M_beam_112 : decode b_M_beam 112 = .ok (.getfield 144, 3) := by decide +kernel
theorem d_M_beam_115 : decode b_M_beam 115 = .ok (.iload 4, 2) := by decide +kernel
theorem d_M_beam_117 : decode b_M_beam 117 = .ok (.iastore, 1) := by decide +kernel
theorem d_M_beam_118 : decode b_M_beam 118 = .ok (.aload_n 0, 1) := by decide +kernel
theorem d_M_beam_119 : decode b_M_beam 119 = .ok (.getfield 35, 3) := by decide +kernel
theorem d_M_beam_122 : decode b_M_beam 122 = .ok (.iconst 2, 1) := by decide +kernel
theorem d_M_beam_123 : decode b_M_beam 123 = .ok (.aload_n 0, 1) := by decide +kernel
theorem d_M_beam_124 : decode b_M_beam 124 = .ok (.getfield 144, 3) := by decide +kernel
theorem d_M_beam_127 : decode b_M_beam 127 = .ok (.imul, 1) := by decide +kernel
theorem d_M_beam_128 : decode b_M_beam 128 = .ok (.iconst 0, 1) := by decide +kernel
theorem d_M_beam_129 : decode b_M_beam 129 = .ok (.iastore, 1) := by decide +kernel
theorem d_M_beam_130 : decode b_M_beam 130 = .ok (.aload_n 0, 1) := by decide +kernel
theorem d_M_beam_131 : decode b_M_beam 131 = .ok (.getfield 35, 3) := by decide +kernel
theorem d_M_beam_134 : decode b_M_beam 134 = .ok (.iconst 2, 1) := by decide +kernel
theorem d_M_beam_135 : decode b_M_beam 135 = .ok (.aload_n 0, 1) := by decide +kernel
theorem d_M_beam_136 : decode b_M_beam 136 = .ok (.getfield 144, 3) := by decide +kernel
theorem d_M_beam_139 : decode b_M_beam 139 = .ok (.imul, 1) := by decide +kernel
theorem d_M_beam_140 : decode b_M_beam 140 = .ok (.iconst 1, 1) := by decide +kernel
theorem d_M_beam_141 : decode b_M_beam 141 = .ok (.iadd, 1) := by decide +kernel
theorem d_M_beam_142 : decode b_M_beam 142 = .ok (.iload_n 2, 1) := by decide +kernel
theorem d_M_beam_143 : decode b_M_beam 143 = .ok (.iastore, 1) := by decide +kernel
theorem d_M_beam_144 : decode b_M_beam 144 = .ok (.aload_n 0, 1) := by decide +kernel
theorem d_M_beam_145 : decode b_M_beam 145 = .ok (.getfield 38, 3) := by decide +kernel
theorem d_M_beam_148 : decode b_M_beam 148 = .ok (.iconst 2, 1) := by decide +kernel
theorem d_M_beam_149 : decode b_M_beam 149 = .ok (.aload_n 0, 1) := by decide +kernel
theorem d_M_beam_150 : decode b_M_beam 150 = .ok (.getfield 144, 3) := by decide +kernel
theorem d_M_beam_153 : decode b_M_beam 153 = .ok (.imul, 1) := by decide +kernel
theorem d_M_beam_154 : decode b_M_beam 154 = .ok (.ldc 156, 2) := by decide +kernel
theorem d_M_beam_156 : decode b_M_beam 156 = .ok (.iastore, 1) := by decide +kernel
theorem d_M_beam_157 : decode b_M_beam 157 = .ok (.aload_n 0, 1) := by decide +kernel
theorem d_M_beam_158 : decode b_M_beam 158 = .ok (.getfield 38, 3) := by decide +kernel
theorem d_M_beam_161 : decode b_M_beam 161 = .ok (.iconst 2, 1) := by decide +kernel
theorem d_M_beam_162 : decode b_M_beam 162 = .ok (.aload_n 0, 1) := by decide +kernel
theorem d_M_beam_163 : decode b_M_beam 163 = .ok (.getfield 144, 3) := by decide +kernel
theorem d_M_beam_166 : decode b_M_beam 166 = .ok (.imul, 1) := by decide +kernel
theorem d_M_beam_167 : decode b_M_beam 167 = .ok (.iconst 1, 1) := by decide +kernel
theorem d_M_beam_168 : decode b_M_beam 168 = .ok (.iadd, 1) := by decide +kernel
theorem d_M_beam_169 : decode b_M_beam 169 = .ok (.ldc 156, 2) := by decide +kernel
theorem d_M_beam_171 : decode b_M_beam 171 = .ok (.iastore, 1) := by decide +kernel
theorem d_M_beam_172 : decode b_M_beam 172 = .ok (.iconst 0, 1) := by decide +kernel
theorem d_M_beam_173 : decode b_M_beam 173 = .ok (.istore 6, 2) := by decide +kernel
theorem d_M_beam_175 : decode b_M_beam 175 = .ok (.iload 6, 2) := by decide +kernel
theorem d_M_beam_177 : decode b_M_beam 177 = .ok (.bipush 11, 2) := by decide +kernel
theorem d_M_beam_179 : decode b_M_beam 179 = .ok (.if_icmp .ge 25, 3) := by decide +kernel
theorem d_M_beam_182 : decode b_M_beam 182 = .ok (.aload_n 0, 1) := by decide +kernel
theorem d_M_beam_183 : decode b_M_beam 183 = .ok (.getfield 90, 3) := by decide +kernel
theorem d_M_beam_186 : decode b_M_beam 186 = .ok (.bipush 11, 2) := by decide +kernel
theorem d_M_beam_188 : decode b_M_beam 188 = .ok (.aload_n 0, 1) := by decide +kernel
theorem d_M_beam_189 : decode b_M_beam 189 = .ok (.getfield 144, 3) := by decide +kernel
theorem d_M_beam_192 : decode b_M_beam 192 = .ok (.imul, 1) := by decide +kernel
theorem d_M_beam_193 : decode b_M_beam 193 = .ok (.iload 6, 2) := by decide +kernel
theorem d_M_beam_195 : decode b_M_beam 195 = .ok (.iadd, 1) := by decide +kernel
theorem d_M_beam_196 : decode b_M_beam 196 = .ok (.iconst 1, 1) := by decide +kernel
theorem d_M_beam_197 : decode b_M_beam 197 = .ok (.iastore, 1) := by decide +kernel
theorem d_M_beam_198 : decode b_M_beam 198 = .ok (.iinc 6 1, 3) := by decide +kernel
theorem d_M_beam_201 : decode b_M_beam 201 = .ok (.goto (-26), 3) := by decide +kernel
theorem d_M_beam_204 : decode b_M_beam 204 = .ok (.aload_n 0, 1) := by decide +kernel
theorem d_M_beam_205 : decode b_M_beam 205 = .ok (.dup, 1) := by decide +kernel
theorem d_M_beam_206 : decode b_M_beam 206 = .ok (.getfield 144, 3) := by decide +kernel
theorem d_M_beam_209 : decode b_M_beam 209 = .ok (.iconst 1, 1) := by decide +kernel
theorem d_M_beam_210 : decode b_M_beam 210 = .ok (.iadd, 1) := by decide +kernel
theorem d_M_beam_211 : decode b_M_beam 211 = .ok (.putfield 144, 3) := by decide +kernel
theorem d_M_beam_214 : decode b_M_beam 214 = .ok (.aload_n 0, 1) := by decide +kernel
theorem d_M_beam_215 : decode b_M_beam 215 = .ok (.getfield 144, 3) := by decide +kernel
theorem d_M_beam_218 : decode b_M_beam 218 = .ok (.iconst 1, 1) := by decide +kernel
theorem d_M_beam_219 : decode b_M_beam 219 = .ok (.isub, 1) := by decide +kernel
theorem d_M_beam_220 : decode b_M_beam 220 = .ok (.ireturn, 1) := by decide +kernel
abbrev b_M_isYear : ByteArray := prog_7_method_4_code
abbrev y_M_isYear : MethodName := ⟨"OldBeamsModel", "isYear", "(I)Z"⟩
theorem d_M_isYear_0 : decode b_M_isYear 0 = .ok (.iload_n 0, 1) := by decide +kernel
theorem d_M_isYear_1 : decode b_M_isYear 1 = .ok (.i2l, 1) := by decide +kernel
theorem d_M_isYear_2 : decode b_M_isYear 2 = .ok (.lconst 0, 1) := by decide +kernel
theorem d_M_isYear_3 : decode b_M_isYear 3 = .ok (.ldc2_w 124, 3) := by decide +kernel
theorem d_M_isYear_6 : decode b_M_isYear 6 = .ok (.invokestatic 126, 3) := by decide +kernel
theorem d_M_isYear_9 : decode b_M_isYear 9 = .ok (.ireturn, 1) := by decide +kernel
abbrev b_M_seat : ByteArray := prog_7_method_11_code
abbrev y_M_seat : MethodName := ⟨"OldBeamsModel", "seat", "(IIIII)I"⟩
theorem d_M_seat_0 : decode b_M_seat 0 = .ok (.aload_n 0, 1) := by decide +kernel
theorem d_M_seat_1 : decode b_M_seat 1 = .ok (.iload_n 1, 1) := by decide +kernel
theorem d_M_seat_2 : decode b_M_seat 2 = .ok (.invokevirtual 157, 3) := by decide +kernel
theorem d_M_seat_5 : decode b_M_seat 5 = .ok (.ifCond .ne 6, 3) := by decide +kernel
theorem d_M_seat_8 : decode b_M_seat 8 = .ok (.ldc 136, 2) := by decide +kernel
theorem d_M_seat_10 : decode b_M_seat 10 = .ok (.ireturn, 1) := by decide +kernel
theorem d_M_seat_11 : decode b_M_seat 11 = .ok (.iload 4, 2) := by decide +kernel
theorem d_M_seat_13 : decode b_M_seat 13 = .ok (.i2l, 1) := by decide +kernel
theorem d_M_seat_14 : decode b_M_seat 14 = .ok (.lconst 0, 1) := by decide +kernel
theorem d_M_seat_15 : decode b_M_seat 15 = .ok (.iload_n 1, 1) := by decide +kernel
theorem d_M_seat_16 : decode b_M_seat 16 = .ok (.iconst 1, 1) := by decide +kernel
theorem d_M_seat_17 : decode b_M_seat 17 = .ok (.isub, 1) := by decide +kernel
theorem d_M_seat_18 : decode b_M_seat 18 = .ok (.i2l, 1) := by decide +kernel
theorem d_M_seat_19 : decode b_M_seat 19 = .ok (.invokestatic 126, 3) := by decide +kernel
theorem d_M_seat_22 : decode b_M_seat 22 = .ok (.istore 6, 2) := by decide +kernel
theorem d_M_seat_24 : decode b_M_seat 24 = .ok (.iload_n 2, 1) := by decide +kernel
theorem d_M_seat_25 : decode b_M_seat 25 = .ok (.i2l, 1) := by decide +kernel
theorem d_M_seat_26 : decode b_M_seat 26 = .ok (.lconst 0, 1) := by decide +kernel
theorem d_M_seat_27 : decode b_M_seat 27 = .ok (.lconst 1, 1) := by decide +kernel
theorem d_M_seat_28 : decode b_M_seat 28 = .ok (.invokestatic 126, 3) := by decide +kernel
theorem d_M_seat_31 : decode b_M_seat 31 = .ok (.ifCond .eq 42, 3) := by decide +kernel
theorem d_M_seat_34 : decode b_M_seat 34 = .ok (.iload_n 3, 1) := by decide +kernel
theorem d_M_seat_35 : decode b_M_seat 35 = .ok (.i2l, 1) := by decide +kernel
theorem d_M_seat_36 : decode b_M_seat 36 = .ok (.lconst 0, 1) := by decide +kernel
theorem d_M_seat_37 : decode b_M_seat 37 = .ok (.aload_n 0, 1) := by decide +kernel
theorem d_M_seat_38 : decode b_M_seat 38 = .ok (.getfield 19, 3) := by decide +kernel
theorem d_M_seat_41 : decode b_M_seat 41 = .ok (.iload_n 1, 1) := by decide +kernel
theorem d_M_seat_42 : decode b_M_seat 42 = .ok (.iaload, 1) := by decide +kernel
theorem d_M_seat_43 : decode b_M_seat 43 = .ok (.i2l, 1) := by decide +kernel
theorem d_M_seat_44 : decode b_M_seat 44 = .ok (.invokestatic 126, 3) := by decide +kernel
theorem d_M_seat_47 : decode b_M_seat 47 = .ok (.ifCond .eq 26, 3) := by decide +kernel
theorem d_M_seat_50 : decode b_M_seat 50 = .ok (.iload 6, 2) := by decide +kernel
theorem d_M_seat_52 : decode b_M_seat 52 = .ok (.ifCond .eq 24, 3) := by decide +kernel
theorem d_M_seat_55 : decode b_M_seat 55 = .ok (.iload 5, 2) := by decide +kernel
theorem d_M_seat_57 : decode b_M_seat 57 = .ok (.i2l, 1) := by decide +kernel
theorem d_M_seat_58 : decode b_M_seat 58 = .ok (.lconst 0, 1) := by decide +kernel
theorem d_M_seat_59 : decode b_M_seat 59 = .ok (.aload_n 0, 1) := by decide +kernel
theorem d_M_seat_60 : decode b_M_seat 60 = .ok (.getfield 19, 3) := by decide +kernel
theorem d_M_seat_63 : decode b_M_seat 63 = .ok (.iload 4, 2) := by decide +kernel
theorem d_M_seat_65 : decode b_M_seat 65 = .ok (.iaload, 1) := by decide +kernel
theorem d_M_seat_66 : decode b_M_seat 66 = .ok (.i2l, 1) := by decide +kernel
theorem d_M_seat_67 : decode b_M_seat 67 = .ok (.invokestatic 126, 3) := by decide +kernel
theorem d_M_seat_70 : decode b_M_seat 70 = .ok (.ifCond .ne 6, 3) := by decide +kernel
theorem d_M_seat_73 : decode b_M_seat 73 = .ok (.ldc 143, 2) := by decide +kernel
theorem d_M_seat_75 : decode b_M_seat 75 = .ok (.ireturn, 1) := by decide +kernel
theorem d_M_seat_76 : decode b_M_seat 76 = .ok (.iload_n 2, 1) := by decide +kernel
theorem d_M_seat_77 : decode b_M_seat 77 = .ok (.ifCond .ne 7, 3) := by decide +kernel
theorem d_M_seat_80 : decode b_M_seat 80 = .ok (.iload_n 3, 1) := by decide +kernel
theorem d_M_seat_81 : decode b_M_seat 81 = .ok (.goto 11, 3) := by decide +kernel
theorem d_M_seat_84 : decode b_M_seat 84 = .ok (.aload_n 0, 1) := by decide +kernel
theorem d_M_seat_85 : decode b_M_seat 85 = .ok (.getfield 35, 3) := by decide +kernel
theorem d_M_seat_88 : decode b_M_seat 88 = .ok (.iconst 2, 1) := by decide +kernel
theorem d_M_seat_89 : decode b_M_seat 89 = .ok (.iload_n 1, 1) := by decide +kernel
theorem d_M_seat_90 : decode b_M_seat 90 = .ok (.imul, 1) := by decide +kernel
theorem d_M_seat_91 : decode b_M_seat 91 = .ok (.iaload, 1) := by decide +kernel
theorem d_M_seat_92 : decode b_M_seat 92 = .ok (.istore 7, 2) := by decide +kernel
theorem d_M_seat_94 : decode b_M_seat 94 = .ok (.iload_n 2, 1) := by decide +kernel
theorem d_M_seat_95 : decode b_M_seat 95 = .ok (.ifCond .ne 16, 3) := by decide +kernel
theorem d_M_seat_98 : decode b_M_seat 98 = .ok (.aload_n 0, 1) := by decide +kernel
theorem d_M_seat_99 : decode b_M_seat 99 = .ok (.getfield 35, 3) := by decide +kernel
theorem d_M_seat_102 : decode b_M_seat 102 = .ok (.iconst 2, 1) := by decide +kernel
theorem d_M_seat_103 : decode b_M_seat 103 = .ok (.iload_n 1, 1) := by decide +kernel
theorem d_M_seat_104 : decode b_M_seat 104 = .ok (.imul, 1) := by decide +kernel
theorem d_M_seat_105 : decode b_M_seat 105 = .ok (.iconst 1, 1) := by decide +kernel
theorem d_M_seat_106 : decode b_M_seat 106 = .ok (.iadd, 1) := by decide +kernel
theorem d_M_seat_107 : decode b_M_seat 107 = .ok (.iaload, 1) := by decide +kernel
theorem d_M_seat_108 : decode b_M_seat 108 = .ok (.goto 4, 3) := by decide +kernel
theorem d_M_seat_111 : decode b_M_seat 111 = .ok (.iload_n 3, 1) := by decide +kernel
theorem d_M_seat_112 : decode b_M_seat 112 = .ok (.istore 8, 2) := by decide +kernel
theorem d_M_seat_114 : decode b_M_seat 114 = .ok (.iload 4, 2) := by decide +kernel
theorem d_M_seat_116 : decode b_M_seat 116 = .ok (.ldc 156, 2) := by decide +kernel
theorem d_M_seat_118 : decode b_M_seat 118 = .ok (.if_icmp .eq 8, 3) := by decide +kernel
theorem d_M_seat_121 : decode b_M_seat 121 = .ok (.iload 6, 2) := by decide +kernel
theorem d_M_seat_123 : decode b_M_seat 123 = .ok (.ifCond .eq 26, 3) := by decide +kernel
theorem d_M_seat_126 : decode b_M_seat 126 = .ok (.iload 7, 2) := by decide +kernel
theorem d_M_seat_128 : decode b_M_seat 128 = .ok (.iload 8, 2) := by decide +kernel
theorem d_M_seat_130 : decode b_M_seat 130 = .ok (.if_icmp .ge 19, 3) := by decide +kernel
theorem d_M_seat_133 : decode b_M_seat 133 = .ok (.iconst 3, 1) := by decide +kernel
theorem d_M_seat_134 : decode b_M_seat 134 = .ok (.iload 8, 2) := by decide +kernel
theorem d_M_seat_136 : decode b_M_seat 136 = .ok (.iload 7, 2) := by decide +kernel
theorem d_M_seat_138 : decode b_M_seat 138 = .ok (.isub, 1) := by decide +kernel
theorem d_M_seat_139 : decode b_M_seat 139 = .ok (.imul, 1) := by decide +kernel
theorem d_M_seat_140 : decode b_M_seat 140 = .ok (.aload_n 0, 1) := by decide +kernel
theorem d_M_seat_141 : decode b_M_seat 141 = .ok (.getfield 19, 3) := by decide +kernel
theorem d_M_seat_144 : decode b_M_seat 144 = .ok (.iload_n 1, 1) := by decide +kernel
theorem d_M_seat_145 : decode b_M_seat 145 = .ok (.iaload, 1) := by decide +kernel
theorem d_M_seat_146 : decode b_M_seat 146 = .ok (.if_icmp .ge 6, 3) := by decide +kernel
theorem d_M_seat_149 : decode b_M_seat 149 = .ok (.ldc 160, 2) := by decide +kernel
theorem d_M_seat_151 : decode b_M_seat 151 = .ok (.ireturn, 1) := by decide +kernel
theorem d_M_seat_152 : decode b_M_seat 152 = .ok (.aload_n 0, 1) := by decide +kernel
theorem d_M_seat_153 : decode b_M_seat 153 = .ok (.getfield 35, 3) := by decide +kernel
theorem d_M_seat_156 : decode b_M_seat 156 = .ok (.iconst 2, 1) := by decide +kernel
theorem d_M_seat_157 : decode b_M_seat 157 = .ok (.iload_n 1, 1) := by decide +kernel
theorem d_M_seat_158 : decode b_M_seat 158 = .ok (.imul, 1) := by decide +kernel
theorem d_M_seat_159 : decode b_M_seat 159 = .ok (.iload_n 2, 1) := by decide +kernel
theorem d_M_seat_160 : decode b_M_seat 160 = .ok (.iadd, 1) := by decide +kernel
theorem d_M_seat_161 : decode b_M_seat 161 = .ok (.iaload, 1) := by decide +kernel
theorem d_M_seat_162 : decode b_M_seat 162 = .ok (.istore 9, 2) := by decide +kernel
theorem d_M_seat_164 : decode b_M_seat 164 = .ok (.aload_n 0, 1) := by decide +kernel
theorem d_M_seat_165 : decode b_M_seat 165 = .ok (.getfield 35, 3) := by decide +kernel
theorem d_M_seat_168 : decode b_M_seat 168 = .ok (.iconst 2, 1) := by decide +kernel
theorem d_M_seat_169 : decode b_M_seat 169 = .ok (.iload_n 1, 1) := by decide +kernel
theorem d_M_seat_170 : decode b_M_seat 170 = .ok (.imul, 1) := by decide +kernel
theorem d_M_seat_171 : decode b_M_seat 171 = .ok (.iload_n 2, 1) := by decide +kernel
theorem d_M_seat_172 : decode b_M_seat 172 = .ok (.iadd, 1) := by decide +kernel
theorem d_M_seat_173 : decode b_M_seat 173 = .ok (.iload_n 3, 1) := by decide +kernel
theorem d_M_seat_174 : decode b_M_seat 174 = .ok (.iastore, 1) := by decide +kernel
theorem d_M_seat_175 : decode b_M_seat 175 = .ok (.aload_n 0, 1) := by decide +kernel
theorem d_M_seat_176 : decode b_M_seat 176 = .ok (.getfield 38, 3) := by decide +kernel
theorem d_M_seat_179 : decode b_M_seat 179 = .ok (.iconst 2, 1) := by decide +kernel
theorem d_M_seat_180 : decode b_M_seat 180 = .ok (.iload_n 1, 1) := by decide +kernel
theorem d_M_seat_181 : decode b_M_seat 181 = .ok (.imul, 1) := by decide +kernel
theorem d_M_seat_182 : decode b_M_seat 182 = .ok (.iload_n 2, 1) := by decide +kernel
theorem d_M_seat_183 : decode b_M_seat 183 = .ok (.iadd, 1) := by decide +kernel
theorem d_M_seat_184 : decode b_M_seat 184 = .ok (.iload 4, 2) := by decide +kernel
theorem d_M_seat_186 : decode b_M_seat 186 = .ok (.iastore, 1) := by decide +kernel
theorem d_M_seat_187 : decode b_M_seat 187 = .ok (.aload_n 0, 1) := by decide +kernel
theorem d_M_seat_188 : decode b_M_seat 188 = .ok (.getfield 41, 3) := by decide +kernel
theorem d_M_seat_191 : decode b_M_seat 191 = .ok (.iconst 2, 1) := by decide +kernel
theorem d_M_seat_192 : decode b_M_seat 192 = .ok (.iload_n 1, 1) := by decide +kernel
theorem d_M_seat_193 : decode b_M_seat 193 = .ok (.imul, 1) := by decide +kernel
theorem d_M_seat_194 : decode b_M_seat 194 = .ok (.iload_n 2, 1) := by decide +kernel
theorem d_M_seat_195 : decode b_M_seat 195 = .ok (.iadd, 1) := by decide +kernel
theorem d_M_seat_196 : decode b_M_seat 196 = .ok (.iload 5, 2) := by decide +kernel
theorem d_M_seat_198 : decode b_M_seat 198 = .ok (.iastore, 1) := by decide +kernel
theorem d_M_seat_199 : decode b_M_seat 199 = .ok (.iload 9, 2) := by decide +kernel
theorem d_M_seat_201 : decode b_M_seat 201 = .ok (.ireturn, 1) := by decide +kernel
abbrev b_M_isBeam : ByteArray := prog_7_method_9_code
abbrev y_M_isBeam : MethodName := ⟨"OldBeamsModel", "isBeam", "(I)Z"⟩
theorem d_M_isBeam_0 : decode b_M_isBeam 0 = .ok (.iload_n 1, 1) := by decide +kernel
theorem d_M_isBeam_1 : decode b_M_isBeam 1 = .ok (.i2l, 1) := by decide +kernel
theorem d_M_isBeam_2 : decode b_M_isBeam 2 = .ok (.lconst 0, 1) := by decide +kernel
theorem d_M_isBeam_3 : decode b_M_isBeam 3 = .ok (.aload_n 0, 1) := by decide +kernel
theorem d_M_isBeam_4 : decode b_M_isBeam 4 = .ok (.getfield 144, 3) := by decide +kernel
theorem d_M_isBeam_7 : decode b_M_isBeam 7 = .ok (.iconst 1, 1) := by decide +kernel
theorem d_M_isBeam_8 : decode b_M_isBeam 8 = .ok (.isub, 1) := by decide +kernel
theorem d_M_isBeam_9 : decode b_M_isBeam 9 = .ok (.i2l, 1) := by decide +kernel
theorem d_M_isBeam_10 : decode b_M_isBeam 10 = .ok (.invokestatic 126, 3) := by decide +kernel
theorem d_M_isBeam_13 : decode b_M_isBeam 13 = .ok (.ireturn, 1) := by decide +kernel
abbrev b_M_about : ByteArray := prog_7_method_13_code
abbrev y_M_about : MethodName := ⟨"OldBeamsModel", "about", "(II)I"⟩
theorem d_M_about_0 : decode b_M_about 0 = .ok (.aload_n 0, 1) := by decide +kernel
theorem d_M_about_1 : decode b_M_about 1 = .ok (.iload_n 1, 1) := by decide +kernel
theorem d_M_about_2 : decode b_M_about 2 = .ok (.invokevirtual 157, 3) := by decide +kernel
theorem d_M_about_5 : decode b_M_about 5 = .ok (.ifCond .ne 6, 3) := by decide +kernel
theorem d_M_about_8 : decode b_M_about 8 = .ok (.ldc 136, 2) := by decide +kernel
theorem d_M_about_10 : decode b_M_about 10 = .ok (.ireturn, 1) := by decide +kernel
theorem d_M_about_11 : decode b_M_about 11 = .ok (.aload_n 0, 1) := by decide +kernel
theorem d_M_about_12 : decode b_M_about 12 = .ok (.invokevirtual 161, 3) := by decide +kernel
theorem d_M_about_15 : decode b_M_about 15 = .ok (.iload_n 2, 1) := by decide +kernel
theorem d_M_about_16 : decode b_M_about 16 = .ok (.tableswitch 131 0 7 #[48, 55, 64, 75, 84, 95, 101, 116], 48) := by decide +kernel
theorem d_M_about_64 : decode b_M_about 64 = .ok (.aload_n 0, 1) := by decide +kernel
theorem d_M_about_65 : decode b_M_about 65 = .ok (.getfield 19, 3) := by decide +kernel
theorem d_M_about_68 : decode b_M_about 68 = .ok (.iload_n 1, 1) := by decide +kernel
theorem d_M_about_69 : decode b_M_about 69 = .ok (.iaload, 1) := by decide +kernel
theorem d_M_about_70 : decode b_M_about 70 = .ok (.ireturn, 1) := by decide +kernel
theorem d_M_about_71 : decode b_M_about 71 = .ok (.aload_n 0, 1) := by decide +kernel
theorem d_M_about_72 : decode b_M_about 72 = .ok (.getfield 35, 3) := by decide +kernel
theorem d_M_about_75 : decode b_M_about 75 = .ok (.iconst 2, 1) := by decide +kernel
theorem d_M_about_76 : decode b_M_about 76 = .ok (.iload_n 1, 1) := by decide +kernel
theorem d_M_about_77 : decode b_M_about 77 = .ok (.imul, 1) := by decide +kernel
theorem d_M_about_78 : decode b_M_about 78 = .ok (.iaload, 1) := by decide +kernel
theorem d_M_about_79 : decode b_M_about 79 = .ok (.ireturn, 1) := by decide +kernel
theorem d_M_about_80 : decode b_M_about 80 = .ok (.aload_n 0, 1) := by decide +kernel
theorem d_M_about_81 : decode b_M_about 81 = .ok (.getfield 35, 3) := by decide +kernel
theorem d_M_about_84 : decode b_M_about 84 = .ok (.iconst 2, 1) := by decide +kernel
theorem d_M_about_85 : decode b_M_about 85 = .ok (.iload_n 1, 1) := by decide +kernel
theorem d_M_about_86 : decode b_M_about 86 = .ok (.imul, 1) := by decide +kernel
theorem d_M_about_87 : decode b_M_about 87 = .ok (.iconst 1, 1) := by decide +kernel
theorem d_M_about_88 : decode b_M_about 88 = .ok (.iadd, 1) := by decide +kernel
theorem d_M_about_89 : decode b_M_about 89 = .ok (.iaload, 1) := by decide +kernel
theorem d_M_about_90 : decode b_M_about 90 = .ok (.ireturn, 1) := by decide +kernel
theorem d_M_about_91 : decode b_M_about 91 = .ok (.aload_n 0, 1) := by decide +kernel
theorem d_M_about_92 : decode b_M_about 92 = .ok (.getfield 38, 3) := by decide +kernel
theorem d_M_about_95 : decode b_M_about 95 = .ok (.iconst 2, 1) := by decide +kernel
theorem d_M_about_96 : decode b_M_about 96 = .ok (.iload_n 1, 1) := by decide +kernel
theorem d_M_about_97 : decode b_M_about 97 = .ok (.imul, 1) := by decide +kernel
theorem d_M_about_98 : decode b_M_about 98 = .ok (.iaload, 1) := by decide +kernel
theorem d_M_about_99 : decode b_M_about 99 = .ok (.ireturn, 1) := by decide +kernel
theorem d_M_about_100 : decode b_M_about 100 = .ok (.aload_n 0, 1) := by decide +kernel
theorem d_M_about_101 : decode b_M_about 101 = .ok (.getfield 38, 3) := by decide +kernel
theorem d_M_about_104 : decode b_M_about 104 = .ok (.iconst 2, 1) := by decide +kernel
theorem d_M_about_105 : decode b_M_about 105 = .ok (.iload_n 1, 1) := by decide +kernel
theorem d_M_about_106 : decode b_M_about 106 = .ok (.imul, 1) := by decide +kernel
theorem d_M_about_107 : decode b_M_about 107 = .ok (.iconst 1, 1) := by decide +kernel
theorem d_M_about_108 : decode b_M_about 108 = .ok (.iadd, 1) := by decide +kernel
theorem d_M_about_109 : decode b_M_about 109 = .ok (.iaload, 1) := by decide +kernel
theorem d_M_about_110 : decode b_M_about 110 = .ok (.ireturn, 1) := by decide +kernel
theorem d_M_about_111 : decode b_M_about 111 = .ok (.aload_n 0, 1) := by decide +kernel
theorem d_M_about_112 : decode b_M_about 112 = .ok (.iload_n 1, 1) := by decide +kernel
theorem d_M_about_113 : decode b_M_about 113 = .ok (.invokevirtual 164, 3) := by decide +kernel
theorem d_M_about_116 : decode b_M_about 116 = .ok (.ireturn, 1) := by decide +kernel
theorem d_M_about_117 : decode b_M_about 117 = .ok (.aload_n 0, 1) := by decide +kernel
theorem d_M_about_118 : decode b_M_about 118 = .ok (.getfield 28, 3) := by decide +kernel
theorem d_M_about_121 : decode b_M_about 121 = .ok (.iload_n 1, 1) := by decide +kernel
theorem d_M_about_122 : decode b_M_about 122 = .ok (.baload, 1) := by decide +kernel
theorem d_M_about_123 : decode b_M_about 123 = .ok (.ifCond .eq 7, 3) := by decide +kernel
theorem d_M_about_126 : decode b_M_about 126 = .ok (.iconst 1, 1) := by decide +kernel
theorem d_M_about_127 : decode b_M_about 127 = .ok (.goto 4, 3) := by decide +kernel
theorem d_M_about_130 : decode b_M_about 130 = .ok (.iconst 0, 1) := by decide +kernel
theorem d_M_about_131 : decode b_M_about 131 = .ok (.ireturn, 1) := by decide +kernel
theorem d_M_about_132 : decode b_M_about 132 = .ok (.aload_n 0, 1) := by decide +kernel
theorem d_M_about_133 : decode b_M_about 133 = .ok (.getfield 74, 3) := by decide +kernel
theorem d_M_about_136 : decode b_M_about 136 = .ok (.iload_n 1, 1) := by decide +kernel
theorem d_M_about_137 : decode b_M_about 137 = .ok (.baload, 1) := by decide +kernel
theorem d_M_about_138 : decode b_M_about 138 = .ok (.ifCond .eq 7, 3) := by decide +kernel
theorem d_M_about_141 : decode b_M_about 141 = .ok (.iconst 1, 1) := by decide +kernel
theorem d_M_about_142 : decode b_M_about 142 = .ok (.goto 4, 3) := by decide +kernel
theorem d_M_about_145 : decode b_M_about 145 = .ok (.iconst 0, 1) := by decide +kernel
theorem d_M_about_146 : decode b_M_about 146 = .ok (.ireturn, 1) := by decide +kernel
theorem d_M_about_147 : decode b_M_about 147 = .ok (.ldc 143, 2) := by decide +kernel
theorem d_M_about_149 : decode b_M_about 149 = .ok (.ireturn, 1) := by decide +kernel
abbrev b_M_layNow : ByteArray := prog_7_method_26_code
abbrev y_M_layNow : MethodName := ⟨"OldBeamsModel", "layNow", "()V"⟩
theorem d_M_layNow_0 : decode b_M_layNow 0 = .ok (.aload_n 0, 1) := by decide +kernel
theorem d_M_layNow_1 : decode b_M_layNow 1 = .ok (.invokevirtual 193, 3) := by decide +kernel
theorem d_M_layNow_4 : decode b_M_layNow 4 = .ok (.aload_n 0, 1) := by decide +kernel
theorem d_M_layNow_5 : decode b_M_layNow 5 = .ok (.invokevirtual 196, 3) := by decide +kernel
theorem d_M_layNow_8 : decode b_M_layNow 8 = .ok (.return_, 1) := by decide +kernel
abbrev b_M_tryNow : ByteArray := prog_7_method_19_code
abbrev y_M_tryNow : MethodName := ⟨"OldBeamsModel", "tryNow", "()V"⟩
theorem d_M_tryNow_0 : decode b_M_tryNow 0 = .ok (.iconst 0, 1) := by decide +kernel
theorem d_M_tryNow_1 : decode b_M_tryNow 1 = .ok (.istore_n 1, 1) := by decide +kernel
theorem d_M_tryNow_2 : decode b_M_tryNow 2 = .ok (.iload_n 1, 1) := by decide +kernel
theorem d_M_tryNow_3 : decode b_M_tryNow 3 = .ok (.bipush 12, 2) := by decide +kernel
theorem d_M_tryNow_5 : decode b_M_tryNow 5 = .ok (.if_icmp .ge 21, 3) := by decide +kernel
theorem d_M_tryNow_8 : decode b_M_tryNow 8 = .ok (.aload_n 0, 1) := by decide +kernel
theorem d_M_tryNow_9 : decode b_M_tryNow 9 = .ok (.getfield 68, 3) := by decide +kernel
theorem d_M_tryNow_12 : decode b_M_tryNow 12 = .ok (.iload_n 1, 1) := by decide +kernel
theorem d_M_tryNow_13 : decode b_M_tryNow 13 = .ok (.aload_n 0, 1) := by decide +kernel
theorem d_M_tryNow_14 : decode b_M_tryNow 14 = .ok (.getfield 32, 3) := by decide +kernel
theorem d_M_tryNow_17 : decode b_M_tryNow 17 = .ok (.iload_n 1, 1) := by decide +kernel
theorem d_M_tryNow_18 : decode b_M_tryNow 18 = .ok (.baload, 1) := by decide +kernel
theorem d_M_tryNow_19 : decode b_M_tryNow 19 = .ok (.bastore, 1) := by decide +kernel
theorem d_M_tryNow_20 : decode b_M_tryNow 20 = .ok (.iinc 1 1, 3) := by decide +kernel
theorem d_M_tryNow_23 : decode b_M_tryNow 23 = .ok (.goto (-21), 3) := by decide +kernel
theorem d_M_tryNow_26 : decode b_M_tryNow 26 = .ok (.iconst 0, 1) := by decide +kernel
theorem d_M_tryNow_27 : decode b_M_tryNow 27 = .ok (.istore_n 1, 1) := by decide +kernel
theorem d_M_tryNow_28 : decode b_M_tryNow 28 = .ok (.iload_n 1, 1) := by decide +kernel
theorem d_M_tryNow_29 : decode b_M_tryNow 29 = .ok (.bipush 8, 2) := by decide +kernel
theorem d_M_tryNow_31 : decode b_M_tryNow 31 = .ok (.if_icmp .ge 21, 3) := by decide +kernel
theorem d_M_tryNow_34 : decode b_M_tryNow 34 = .ok (.aload_n 0, 1) := by decide +kernel
theorem d_M_tryNow_35 : decode b_M_tryNow 35 = .ok (.getfield 71, 3) := by decide +kernel
theorem d_M_tryNow_38 : decode b_M_tryNow 38 = .ok (.iload_n 1, 1) := by decide +kernel
theorem d_M_tryNow_39 : decode b_M_tryNow 39 = .ok (.aload_n 0, 1) := by decide +kernel
theorem d_M_tryNow_40 : decode b_M_tryNow 40 = .ok (.getfield 65, 3) := by decide +kernel
theorem d_M_tryNow_43 : decode b_M_tryNow 43 = .ok (.iload_n 1, 1) := by decide +kernel
theorem d_M_tryNow_44 : decode b_M_tryNow 44 = .ok (.baload, 1) := by decide +kernel
theorem d_M_tryNow_45 : decode b_M_tryNow 45 = .ok (.bastore, 1) := by decide +kernel
theorem d_M_tryNow_46 : decode b_M_tryNow 46 = .ok (.iinc 1 1, 3) := by decide +kernel
theorem d_M_tryNow_49 : decode b_M_tryNow 49 = .ok (.goto (-21), 3) := by decide +kernel
theorem d_M_tryNow_52 : decode b_M_tryNow 52 = .ok (.return_, 1) := by decide +kernel
abbrev b_M_layTried : ByteArray := prog_7_method_21_code
abbrev y_M_layTried : MethodName := ⟨"OldBeamsModel", "layTried", "()V"⟩
theorem d_M_layTried_0 : decode b_M_layTried 0 = .ok (.aload_n 0, 1) := by decide +kernel
theorem d_M_layTried_1 : decode b_M_layTried 1 = .ok (.invokevirtual 176, 3) := by decide +kernel
theorem d_M_layTried_4 : decode b_M_layTried 4 = .ok (.iconst 0, 1) := by decide +kernel
theorem d_M_layTried_5 : decode b_M_layTried 5 = .ok (.istore_n 1, 1) := by decide +kernel
theorem d_M_layTried_6 : decode b_M_layTried 6 = .ok (.iload_n 1, 1) := by decide +kernel
theorem d_M_layTried_7 : decode b_M_layTried 7 = .ok (.sipush 732, 3) := by decide +kernel
theorem d_M_layTried_10 : decode b_M_layTried 10 = .ok (.if_icmp .ge 16, 3) := by decide +kernel
theorem d_M_layTried_13 : decode b_M_layTried 13 = .ok (.aload_n 0, 1) := by decide +kernel
theorem d_M_layTried_14 : decode b_M_layTried 14 = .ok (.getfield 77, 3) := by decide +kernel
theorem d_M_layTried_17 : decode b_M_layTried 17 = .ok (.iload_n 1, 1) := by decide +kernel
theorem d_M_layTried_18 : decode b_M_layTried 18 = .ok (.lconst 0, 1) := by decide +kernel
theorem d_M_layTried_19 : decode b_M_layTried 19 = .ok (.lastore, 1) := by decide +kernel
theorem d_M_layTried_20 : decode b_M_layTried 20 = .ok (.iinc 1 1, 3) := by decide +kernel
theorem d_M_layTried_23 : decode b_M_layTried 23 = .ok (.goto (-17), 3) := by decide +kernel
theorem d_M_layTried_26 : decode b_M_layTried 26 = .ok (.iconst 0, 1) := by decide +kernel
theorem d_M_layTried_27 : decode b_M_layTried 27 = .ok (.istore_n 1, 1) := by decide +kernel
theorem d_M_layTried_28 : decode b_M_layTried 28 = .ok (.iload_n 1, 1) := by decide +kernel
theorem d_M_layTried_29 : decode b_M_layTried 29 = .ok (.aload_n 0, 1) := by decide +kernel
theorem d_M_layTried_30 : decode b_M_layTried 30 = .ok (.getfield 170, 3) := by decide +kernel
theorem d_M_layTried_33 : decode b_M_layTried 33 = .ok (.if_icmp .ge 53, 3) := by decide +kernel
theorem d_M_layTried_36 : decode b_M_layTried 36 = .ok (.aload_n 0, 1) := by decide +kernel
theorem d_M_layTried_37 : decode b_M_layTried 37 = .ok (.getfield 77, 3) := by decide +kernel
theorem d_M_layTried_40 : decode b_M_layTried 40 = .ok (.bipush 61, 2) := by decide +kernel
theorem d_M_layTried_42 : decode b_M_layTried 42 = .ok (.aload_n 0, 1) := by decide +kernel
theorem d_M_layTried_43 : decode b_M_layTried 43 = .ok (.getfield 44, 3) := by decide +kernel
theorem d_M_layTried_46 : decode b_M_layTried 46 = .ok (.iload_n 1, 1) := by decide +kernel
theorem d_M_layTried_47 : decode b_M_layTried 47 = .ok (.iaload, 1) := by decide +kernel
theorem d_M_layTried_48 : decode b_M_layTried 48 = .ok (.imul, 1) := by decide +kernel
theorem d_M_layTried_49 : decode b_M_layTried 49 = .ok (.aload_n 0, 1) := by decide +kernel
theorem d_M_layTried_50 : decode b_M_layTried 50 = .ok (.getfield 47, 3) := by decide +kernel
theorem d_M_layTried_53 : decode b_M_layTried 53 = .ok (.iload_n 1, 1) := by decide +kernel
theorem d_M_layTried_54 : decode b_M_layTried 54 = .ok (.iaload, 1) := by decide +kernel
theorem d_M_layTried_55 : decode b_M_layTried 55 = .ok (.iadd, 1) := by decide +kernel
theorem d_M_layTried_56 : decode b_M_layTried 56 = .ok (.dup2, 1) := by decide +kernel
theorem d_M_layTried_57 : decode b_M_layTried 57 = .ok (.laload, 1) := by decide +kernel
theorem d_M_layTried_58 : decode b_M_layTried 58 = .ok (.aload_n 0, 1) := by decide +kernel
theorem d_M_layTried_59 : decode b_M_layTried 59 = .ok (.getfield 53, 3) := by decide +kernel
theorem d_M_layTried_62 : decode b_M_layTried 62 = .ok (.iload_n 1, 1) := by decide +kernel
theorem d_M_layTried_63 : decode b_M_layTried 63 = .ok (.baload, 1) := by decide +kernel
theorem d_M_layTried_64 : decode b_M_layTried 64 = .ok (.ifCond .eq 7, 3) := by decide +kernel
theorem d_M_layTried_67 : decode b_M_layTried 67 = .ok (.lconst 0, 1) := by decide +kernel
theorem d_M_layTried_68 : decode b_M_layTried 68 = .ok (.goto 10, 3) := by decide +kernel
theorem d_M_layTried_71 : decode b_M_layTried 71 = .ok (.aload_n 0, 1) := by decide +kernel
theorem d_M_layTried_72 : decode b_M_layTried 72 = .ok (.getfield 50, 3) := by decide +kernel
theorem d_M_layTried_75 : decode b_M_layTried 75 = .ok (.iload_n 1, 1) := by decide +kernel
theorem d_M_layTried_76 : decode b_M_layTried 76 = .ok (.iaload, 1) := by decide +kernel
theorem d_M_layTried_77 : decode b_M_layTried 77 = .ok (.i2l, 1) := by decide +kernel
theorem d_M_layTried_78 : decode b_M_layTried 78 = .ok (.ladd, 1) := by decide +kernel
theorem d_M_layTried_79 : decode b_M_layTried 79 = .ok (.lastore, 1) := by decide +kernel
theorem d_M_layTried_80 : decode b_M_layTried 80 = .ok (.iinc 1 1, 3) := by decide +kernel
theorem d_M_layTried_83 : decode b_M_layTried 83 = .ok (.goto (-55), 3) := by decide +kernel
theorem d_M_layTried_86 : decode b_M_layTried 86 = .ok (.iconst 0, 1) := by decide +kernel
theorem d_M_layTried_87 : decode b_M_layTried 87 = .ok (.istore_n 1, 1) := by decide +kernel
theorem d_M_layTried_88 : decode b_M_layTried 88 = .ok (.iload_n 1, 1) := by decide +kernel
theorem d_M_layTried_89 : decode b_M_layTried 89 = .ok (.aload_n 0, 1) := by decide +kernel
theorem d_M_layTried_90 : decode b_M_layTried 90 = .ok (.getfield 173, 3) := by decide +kernel
theorem d_M_layTried_93 : decode b_M_layTried 93 = .ok (.if_icmp .ge 53, 3) := by decide +kernel
theorem d_M_layTried_96 : decode b_M_layTried 96 = .ok (.aload_n 0, 1) := by decide +kernel
theorem d_M_layTried_97 : decode b_M_layTried 97 = .ok (.getfield 77, 3) := by decide +kernel
theorem d_M_layTried_100 : decode b_M_layTried 100 = .ok (.bipush 61, 2) := by decide +kernel
theorem d_M_layTried_102 : decode b_M_layTried 102 = .ok (.aload_n 0, 1) := by decide +kernel
theorem d_M_layTried_103 : decode b_M_layTried 103 = .ok (.getfield 56, 3) := by decide +kernel
theorem d_M_layTried_106 : decode b_M_layTried 106 = .ok (.iload_n 1, 1) := by decide +kernel
theorem d_M_layTried_107 : decode b_M_layTried 107 = .ok (.iaload, 1) := by decide +kernel
theorem d_M_layTried_108 : decode b_M_layTried 108 = .ok (.imul, 1) := by decide +kernel
theorem d_M_layTried_109 : decode b_M_layTried 109 = .ok (.aload_n 0, 1) := by decide +kernel
theorem d_M_layTried_110 : decode b_M_layTried 110 = .ok (.getfield 59, 3) := by decide +kernel
theorem d_M_layTried_113 : decode b_M_layTried 113 = .ok (.iload_n 1, 1) := by decide +kernel
theorem d_M_layTried_114 : decode b_M_layTried 114 = .ok (.iaload, 1) := by decide +kernel
theorem d_M_layTried_115 : decode b_M_layTried 115 = .ok (.iadd, 1) := by decide +kernel
theorem d_M_layTried_116 : decode b_M_layTried 116 = .ok (.dup2, 1) := by decide +kernel
theorem d_M_layTried_117 : decode b_M_layTried 117 = .ok (.laload, 1) := by decide +kernel
theorem d_M_layTried_118 : decode b_M_layTried 118 = .ok (.aload_n 0, 1) := by decide +kernel
theorem d_M_layTried_119 : decode b_M_layTried 119 = .ok (.getfield 71, 3) := by decide +kernel
theorem d_M_layTried_122 : decode b_M_layTried 122 = .ok (.iload_n 1, 1) := by decide +kernel
theorem d_M_layTried_123 : decode b_M_layTried 123 = .ok (.baload, 1) := by decide +kernel
theorem d_M_layTried_124 : decode b_M_layTried 124 = .ok (.ifCond .eq 13, 3) := by decide +kernel
theorem d_M_layTried_127 : decode b_M_layTried 127 = .ok (.aload_n 0, 1) := by decide +kernel
theorem d_M_layTried_128 : decode b_M_layTried 128 = .ok (.getfield 62, 3) := by decide +kernel
theorem d_M_layTried_131 : decode b_M_layTried 131 = .ok (.iload_n 1, 1) := by decide +kernel
theorem d_M_layTried_132 : decode b_M_layTried 132 = .ok (.iaload, 1) := by decide +kernel
theorem d_M_layTried_133 : decode b_M_layTried 133 = .ok (.i2l, 1) := by decide +kernel
theorem d_M_layTried_134 : decode b_M_layTried 134 = .ok (.goto 4, 3) := by decide +kernel
theorem d_M_layTried_137 : decode b_M_layTried 137 = .ok (.lconst 0, 1) := by decide +kernel
theorem d_M_layTried_138 : decode b_M_layTried 138 = .ok (.lsub, 1) := by decide +kernel
theorem d_M_layTried_139 : decode b_M_layTried 139 = .ok (.lastore, 1) := by decide +kernel
theorem d_M_layTried_140 : decode b_M_layTried 140 = .ok (.iinc 1 1, 3) := by decide +kernel
theorem d_M_layTried_143 : decode b_M_layTried 143 = .ok (.goto (-55), 3) := by decide +kernel
theorem d_M_layTried_146 : decode b_M_layTried 146 = .ok (.aload_n 0, 1) := by decide +kernel
theorem d_M_layTried_147 : decode b_M_layTried 147 = .ok (.getfield 144, 3) := by decide +kernel
theorem d_M_layTried_150 : decode b_M_layTried 150 = .ok (.iconst 1, 1) := by decide +kernel
theorem d_M_layTried_151 : decode b_M_layTried 151 = .ok (.isub, 1) := by decide +kernel
theorem d_M_layTried_152 : decode b_M_layTried 152 = .ok (.istore_n 1, 1) := by decide +kernel
theorem d_M_layTried_153 : decode b_M_layTried 153 = .ok (.iload_n 1, 1) := by decide +kernel
theorem d_M_layTried_154 : decode b_M_layTried 154 = .ok (.ifCond .lt 28, 3) := by decide +kernel
theorem d_M_layTried_157 : decode b_M_layTried 157 = .ok (.aload_n 0, 1) := by decide +kernel
theorem d_M_layTried_158 : decode b_M_layTried 158 = .ok (.getfield 74, 3) := by decide +kernel
theorem d_M_layTried_161 : decode b_M_layTried 161 = .ok (.iload_n 1, 1) := by decide +kernel
theorem d_M_layTried_162 : decode b_M_layTried 162 = .ok (.baload, 1) := by decide +kernel
theorem d_M_layTried_163 : decode b_M_layTried 163 = .ok (.ifCond .ne 13, 3) := by decide +kernel
theorem d_M_layTried_166 : decode b_M_layTried 166 = .ok (.aload_n 0, 1) := by decide +kernel
theorem d_M_layTried_167 : decode b_M_layTried 167 = .ok (.iload_n 1, 1) := by decide +kernel
theorem d_M_layTried_168 : decode b_M_layTried 168 = .ok (.invokevirtual 179, 3) := by decide +kernel
theorem d_M_layTried_171 : decode b_M_layTried 171 = .ok (.aload_n 0, 1) := by decide +kernel
theorem d_M_layTried_172 : decode b_M_layTried 172 = .ok (.iload_n 1, 1) := by decide +kernel
theorem d_M_layTried_173 : decode b_M_layTried 173 = .ok (.invokevirtual 183, 3) := by decide +kernel
theorem d_M_layTried_176 : decode b_M_layTried 176 = .ok (.iinc 1 (-1), 3) := by decide +kernel
theorem d_M_layTried_179 : decode b_M_layTried 179 = .ok (.goto (-26), 3) := by decide +kernel
theorem d_M_layTried_182 : decode b_M_layTried 182 = .ok (.return_, 1) := by decide +kernel
abbrev b_M_layDown : ByteArray := prog_7_method_20_code
abbrev y_M_layDown : MethodName := ⟨"OldBeamsModel", "layDown", "()V"⟩
theorem d_M_layDown_0 : decode b_M_layDown 0 = .ok (.iconst 0, 1) := by decide +kernel
theorem d_M_layDown_1 : decode b_M_layDown 1 = .ok (.istore_n 1, 1) := by decide +kernel
theorem d_M_layDown_2 : decode b_M_layDown 2 = .ok (.iload_n 1, 1) := by decide +kernel
theorem d_M_layDown_3 : decode b_M_layDown 3 = .ok (.aload_n 0, 1) := by decide +kernel
theorem d_M_layDown_4 : decode b_M_layDown 4 = .ok (.getfield 144, 3) := by decide +kernel
theorem d_M_layDown_7 : decode b_M_layDown 7 = .ok (.if_icmp .ge 85, 3) := by decide +kernel
theorem d_M_layDown_10 : decode b_M_layDown 10 = .ok (.aload_n 0, 1) := by decide +kernel
theorem d_M_layDown_11 : decode b_M_layDown 11 = .ok (.getfield 74, 3) := by decide +kernel
theorem d_M_layDown_14 : decode b_M_layDown 14 = .ok (.iload_n 1, 1) := by decide +kernel
theorem d_M_layDown_15 : decode b_M_layDown 15 = .ok (.aload_n 0, 1) := by decide +kernel
theorem d_M_layDown_16 : decode b_M_layDown 16 = .ok (.getfield 68, 3) := by decide +kernel
theorem d_M_layDown_19 : decode b_M_layDown 19 = .ok (.iload_n 1, 1) := by decide +kernel
theorem d_M_layDown_20 : decode b_M_layDown 20 = .ok (.baload, 1) := by decide +kernel
theorem d_M_layDown_21 : decode b_M_layDown 21 = .ok (.bastore, 1) := by decide +kernel
theorem d_M_layDown_22 : decode b_M_layDown 22 = .ok (.iconst 2, 1) := by decide +kernel
theorem d_M_layDown_23 : decode b_M_layDown 23 = .ok (.iload_n 1, 1) := by decide +kernel
theorem d_M_layDown_24 : decode b_M_layDown 24 = .ok (.imul, 1) := by decide +kernel
theorem d_M_layDown_25 : decode b_M_layDown 25 = .ok (.istore_n 2, 1) := by decide +kernel
theorem d_M_layDown_26 : decode b_M_layDown 26 = .ok (.iload_n 2, 1) := by decide +kernel
theorem d_M_layDown_27 : decode b_M_layDown 27 = .ok (.iconst 2, 1) := by decide +kernel
theorem d_M_layDown_28 : decode b_M_layDown 28 = .ok (.iload_n 1, 1) := by decide +kernel
theorem d_M_layDown_29 : decode b_M_layDown 29 = .ok (.imul, 1) := by decide +kernel
theorem d_M_layDown_30 : decode b_M_layDown 30 = .ok (.iconst 2, 1) := by decide +kernel
theorem d_M_layDown_31 : decode b_M_layDown 31 = .ok (.iadd, 1) := by decide +kernel
theorem d_M_layDown_32 : decode b_M_layDown 32 = .ok (.if_icmp .ge 54, 3) := by decide +kernel
theorem d_M_layDown_35 : decode b_M_layDown 35 = .ok (.aload_n 0, 1) := by decide +kernel
theorem d_M_layDown_36 : decode b_M_layDown 36 = .ok (.getfield 74, 3) := by decide +kernel
theorem d_M_layDown_39 : decode b_M_layDown 39 = .ok (.iload_n 1, 1) := by decide +kernel
theorem d_M_layDown_40 : decode b_M_layDown 40 = .ok (.aload_n 0, 1) := by decide +kernel
theorem d_M_layDown_41 : decode b_M_layDown 41 = .ok (.getfield 74, 3) := by decide +kernel
theorem d_M_layDown_44 : decode b_M_layDown 44 = .ok (.iload_n 1, 1) := by decide +kernel
theorem d_M_layDown_45 : decode b_M_layDown 45 = .ok (.baload, 1) := by decide +kernel
theorem d_M_layDown_46 : decode b_M_layDown 46 = .ok (.ifCond .ne 28, 3) := by decide +kernel
theorem d_M_layDown_49 : decode b_M_layDown 49 = .ok (.aload_n 0, 1) := by decide +kernel
theorem d_M_layDown_50 : decode b_M_layDown 50 = .ok (.getfield 38, 3) := by decide +kernel
theorem d_M_layDown_53 : decode b_M_layDown 53 = .ok (.iload_n 2, 1) := by decide +kernel
theorem d_M_layDown_54 : decode b_M_layDown 54 = .ok (.iaload, 1) := by decide +kernel
theorem d_M_layDown_55 : decode b_M_layDown 55 = .ok (.ldc 156, 2) := by decide +kernel
theorem d_M_layDown_57 : decode b_M_layDown 57 = .ok (.if_icmp .eq 21, 3) := by decide +kernel
theorem d_M_layDown_60 : decode b_M_layDown 60 = .ok (.aload_n 0, 1) := by decide +kernel
theorem d_M_layDown_61 : decode b_M_layDown 61 = .ok (.getfield 74, 3) := by decide +kernel
theorem d_M_layDown_64 : decode b_M_layDown 64 = .ok (.aload_n 0, 1) := by decide +kernel
theorem d_M_layDown_65 : decode b_M_layDown 65 = .ok (.getfield 38, 3) := by decide +kernel
theorem d_M_layDown_68 : decode b_M_layDown 68 = .ok (.iload_n 2, 1) := by decide +kernel
theorem d_M_layDown_69 : decode b_M_layDown 69 = .ok (.iaload, 1) := by decide +kernel
theorem d_M_layDown_70 : decode b_M_layDown 70 = .ok (.baload, 1) := by decide +kernel
theorem d_M_layDown_71 : decode b_M_layDown 71 = .ok (.ifCond .eq 7, 3) := by decide +kernel
theorem d_M_layDown_74 : decode b_M_layDown 74 = .ok (.iconst 1, 1) := by decide +kernel
theorem d_M_layDown_75 : decode b_M_layDown 75 = .ok (.goto 4, 3) := by decide +kernel
theorem d_M_layDown_78 : decode b_M_layDown 78 = .ok (.iconst 0, 1) := by decide +kernel
theorem d_M_layDown_79 : decode b_M_layDown 79 = .ok (.bastore, 1) := by decide +kernel
theorem d_M_layDown_80 : decode b_M_layDown 80 = .ok (.iinc 2 1, 3) := by decide +kernel
theorem d_M_layDown_83 : decode b_M_layDown 83 = .ok (.goto (-57), 3) := by decide +kernel
theorem d_M_layDown_86 : decode b_M_layDown 86 = .ok (.iinc 1 1, 3) := by decide +kernel
theorem d_M_layDown_89 : decode b_M_layDown 89 = .ok (.goto (-87), 3) := by decide +kernel
theorem d_M_layDown_92 : decode b_M_layDown 92 = .ok (.return_, 1) := by decide +kernel
abbrev b_M_layPush : ByteArray := prog_7_method_23_code
abbrev y_M_layPush : MethodName := ⟨"OldBeamsModel", "layPush", "(I)V"⟩
theorem d_M_layPush_0 : decode b_M_layPush 0 = .ok (.lconst 0, 1) := by decide +kernel
theorem d_M_layPush_1 : decode b_M_layPush 1 = .ok (.lstore_n 2, 1) := by decide +kernel
theorem d_M_layPush_2 : decode b_M_layPush 2 = .ok (.lconst 0, 1) := by decide +kernel
theorem d_M_layPush_3 : decode b_M_layPush 3 = .ok (.lstore 4, 2) := by decide +kernel
theorem d_M_layPush_5 : decode b_M_layPush 5 = .ok (.iconst 0, 1) := by decide +kernel
theorem d_M_layPush_6 : decode b_M_layPush 6 = .ok (.istore 6, 2) := by decide +kernel
theorem d_M_layPush_8 : decode b_M_layPush 8 = .ok (.iload 6, 2) := by decide +kernel
theorem d_M_layPush_10 : decode b_M_layPush 10 = .ok (.aload_n 0, 1) := by decide +kernel
theorem d_M_layPush_11 : decode b_M_layPush 11 = .ok (.getfield 19, 3) := by decide +kernel
theorem d_M_layPush_14 : decode b_M_layPush 14 = .ok (.iload_n 1, 1) := by decide +kernel
theorem d_M_layPush_15 : decode b_M_layPush 15 = .ok (.iaload, 1) := by decide +kernel
theorem d_M_layPush_16 : decode b_M_layPush 16 = .ok (.if_icmp .gt 54, 3) := by decide +kernel
theorem d_M_layPush_19 : decode b_M_layPush 19 = .ok (.lload_n 2, 1) := by decide +kernel
theorem d_M_layPush_20 : decode b_M_layPush 20 = .ok (.aload_n 0, 1) := by decide +kernel
theorem d_M_layPush_21 : decode b_M_layPush 21 = .ok (.getfield 77, 3) := by decide +kernel
theorem d_M_layPush_24 : decode b_M_layPush 24 = .ok (.bipush 61, 2) := by decide +kernel
theorem d_M_layPush_26 : decode b_M_layPush 26 = .ok (.iload_n 1, 1) := by decide +kernel
theorem d_M_layPush_27 : decode b_M_layPush 27 = .ok (.imul, 1) := by decide +kernel
theorem d_M_layPush_28 : decode b_M_layPush 28 = .ok (.iload 6, 2) := by decide +kernel
theorem d_M_layPush_30 : decode b_M_layPush 30 = .ok (.iadd, 1) := by decide +kernel
theorem d_M_layPush_31 : decode b_M_layPush 31 = .ok (.laload, 1) := by decide +kernel
theorem d_M_layPush_32 : decode b_M_layPush 32 = .ok (.ladd, 1) := by decide +kernel
theorem d_M_layPush_33 : decode b_M_layPush 33 = .ok (.lstore_n 2, 1) := by decide +kernel
theorem d_M_layPush_34 : decode b_M_layPush 34 = .ok (.lload 4, 2) := by decide +kernel
theorem d_M_layPush_36 : decode b_M_layPush 36 = .ok (.aload_n 0, 1) := by decide +kernel
theorem d_M_layPush_37 : decode b_M_layPush 37 = .ok (.getfield 77, 3) := by decide +kernel
theorem d_M_layPush_40 : decode b_M_layPush 40 = .ok (.bipush 61, 2) := by decide +kernel
theorem d_M_layPush_42 : decode b_M_layPush 42 = .ok (.iload_n 1, 1) := by decide +kernel
theorem d_M_layPush_43 : decode b_M_layPush 43 = .ok (.imul, 1) := by decide +kernel
theorem d_M_layPush_44 : decode b_M_layPush 44 = .ok (.iload 6, 2) := by decide +kernel
theorem d_M_layPush_46 : decode b_M_layPush 46 = .ok (.iadd, 1) := by decide +kernel
theorem d_M_layPush_47 : decode b_M_layPush 47 = .ok (.laload, 1) := by decide +kernel
theorem d_M_layPush_48 : decode b_M_layPush 48 = .ok (.iload 6, 2) := by decide +kernel
theorem d_M_layPush_50 : decode b_M_layPush 50 = .ok (.aload_n 0, 1) := by decide +kernel
theorem d_M_layPush_51 : decode b_M_layPush 51 = .ok (.getfield 35, 3) := by decide +kernel
theorem d_M_layPush_54 : decode b_M_layPush 54 = .ok (.iconst 2, 1) := by decide +kernel
theorem d_M_layPush_55 : decode b_M_layPush 55 = .ok (.iload_n 1, 1) := by decide +kernel
theorem d_M_layPush_56 : decode b_M_layPush 56 = .ok (.imul, 1) := by decide +kernel
theorem d_M_layPush_57 : decode b_M_layPush 57 = .ok (.iaload, 1) := by decide +kernel
theorem d_M_layPush_58 : decode b_M_layPush 58 = .ok (.isub, 1) := by decide +kernel
theorem d_M_layPush_59 : decode b_M_layPush 59 = .ok (.i2l, 1) := by decide +kernel
theorem d_M_layPush_60 : decode b_M_layPush 60 = .ok (.lmul, 1) := by decide +kernel
theorem d_M_layPush_61 : decode b_M_layPush 61 = .ok (.ladd, 1) := by decide +kernel
theorem d_M_layPush_62 : decode b_M_layPush 62 = .ok (.lstore 4, 2) := by decide +kernel
theorem d_M_layPush_64 : decode b_M_layPush 64 = .ok (.iinc 6 1, 3) := by decide +kernel
theorem d_M_layPush_67 : decode b_M_layPush 67 = .ok (.goto (-59), 3) := by decide +kernel
theorem d_M_layPush_70 : decode b_M_layPush 70 = .ok (.aload_n 0, 1) := by decide +kernel
theorem d_M_layPush_71 : decode b_M_layPush 71 = .ok (.getfield 81, 3) := by decide +kernel
theorem d_M_layPush_74 : decode b_M_layPush 74 = .ok (.iconst 2, 1) := by decide +kernel
theorem d_M_layPush_75 : decode b_M_layPush 75 = .ok (.iload_n 1, 1) := by decide +kernel
theorem d_M_layPush_76 : decode b_M_layPush 76 = .ok (.imul, 1) := by decide +kernel
theorem d_M_layPush_77 : decode b_M_layPush 77 = .ok (.iconst 1, 1) := by decide +kernel
theorem d_M_layPush_78 : decode b_M_layPush 78 = .ok (.iadd, 1) := by decide +kernel
theorem d_M_layPush_79 : decode b_M_layPush 79 = .ok (.lload 4, 2) := by decide +kernel
theorem d_M_layPush_81 : decode b_M_layPush 81 = .ok (.aload_n 0, 1) := by decide +kernel
theorem d_M_layPush_82 : decode b_M_layPush 82 = .ok (.getfield 35, 3) := by decide +kernel
theorem d_M_layPush_85 : decode b_M_layPush 85 = .ok (.iconst 2, 1) := by decide +kernel
theorem d_M_layPush_86 : decode b_M_layPush 86 = .ok (.iload_n 1, 1) := by decide +kernel
theorem d_M_layPush_87 : decode b_M_layPush 87 = .ok (.imul, 1) := by decide +kernel
theorem d_M_layPush_88 : decode b_M_layPush 88 = .ok (.iconst 1, 1) := by decide +kernel
theorem d_M_layPush_89 : decode b_M_layPush 89 = .ok (.iadd, 1) := by decide +kernel
theorem d_M_layPush_90 : decode b_M_layPush 90 = .ok (.iaload, 1) := by decide +kernel
theorem d_M_layPush_91 : decode b_M_layPush 91 = .ok (.aload_n 0, 1) := by decide +kernel
theorem d_M_layPush_92 : decode b_M_layPush 92 = .ok (.getfield 35, 3) := by decide +kernel
theorem d_M_layPush_95 : decode b_M_layPush 95 = .ok (.iconst 2, 1) := by decide +kernel
theorem d_M_layPush_96 : decode b_M_layPush 96 = .ok (.iload_n 1, 1) := by decide +kernel
theorem d_M_layPush_97 : decode b_M_layPush 97 = .ok (.imul, 1) := by decide +kernel
theorem d_M_layPush_98 : decode b_M_layPush 98 = .ok (.iaload, 1) := by decide +kernel
theorem d_M_layPush_99 : decode b_M_layPush 99 = .ok (.isub, 1) := by decide +kernel
theorem d_M_layPush_100 : decode b_M_layPush 100 = .ok (.i2l, 1) := by decide +kernel
theorem d_M_layPush_101 : decode b_M_layPush 101 = .ok (.invokestatic 186, 3) := by decide +kernel
theorem d_M_layPush_104 : decode b_M_layPush 104 = .ok (.lastore, 1) := by decide +kernel
theorem d_M_layPush_105 : decode b_M_layPush 105 = .ok (.aload_n 0, 1) := by decide +kernel
theorem d_M_layPush_106 : decode b_M_layPush 106 = .ok (.getfield 81, 3) := by decide +kernel
theorem d_M_layPush_109 : decode b_M_layPush 109 = .ok (.iconst 2, 1) := by decide +kernel
theorem d_M_layPush_110 : decode b_M_layPush 110 = .ok (.iload_n 1, 1) := by decide +kernel
theorem d_M_layPush_111 : decode b_M_layPush 111 = .ok (.imul, 1) := by decide +kernel
theorem d_M_layPush_112 : decode b_M_layPush 112 = .ok (.lload_n 2, 1) := by decide +kernel
theorem d_M_layPush_113 : decode b_M_layPush 113 = .ok (.aload_n 0, 1) := by decide +kernel
theorem d_M_layPush_114 : decode b_M_layPush 114 = .ok (.getfield 81, 3) := by decide +kernel
theorem d_M_layPush_117 : decode b_M_layPush 117 = .ok (.iconst 2, 1) := by decide +kernel
theorem d_M_layPush_118 : decode b_M_layPush 118 = .ok (.iload_n 1, 1) := by decide +kernel
theorem d_M_layPush_119 : decode b_M_layPush 119 = .ok (.imul, 1) := by decide +kernel
theorem d_M_layPush_120 : decode b_M_layPush 120 = .ok (.iconst 1, 1) := by decide +kernel
theorem d_M_layPush_121 : decode b_M_layPush 121 = .ok (.iadd, 1) := by decide +kernel
theorem d_M_layPush_122 : decode b_M_layPush 122 = .ok (.laload, 1) := by decide +kernel
theorem d_M_layPush_123 : decode b_M_layPush 123 = .ok (.lsub, 1) := by decide +kernel
theorem d_M_layPush_124 : decode b_M_layPush 124 = .ok (.lastore, 1) := by decide +kernel
theorem d_M_layPush_125 : decode b_M_layPush 125 = .ok (.iconst 2, 1) := by decide +kernel
theorem d_M_layPush_126 : decode b_M_layPush 126 = .ok (.iload_n 1, 1) := by decide +kernel
theorem d_M_layPush_127 : decode b_M_layPush 127 = .ok (.imul, 1) := by decide +kernel
theorem d_M_layPush_128 : decode b_M_layPush 128 = .ok (.istore 6, 2) := by decide +kernel
theorem d_M_layPush_130 : decode b_M_layPush 130 = .ok (.iload 6, 2) := by decide +kernel
theorem d_M_layPush_132 : decode b_M_layPush 132 = .ok (.iconst 2, 1) := by decide +kernel
theorem d_M_layPush_133 : decode b_M_layPush 133 = .ok (.iload_n 1, 1) := by decide +kernel
theorem d_M_layPush_134 : decode b_M_layPush 134 = .ok (.imul, 1) := by decide +kernel
theorem d_M_layPush_135 : decode b_M_layPush 135 = .ok (.iconst 2, 1) := by decide +kernel
theorem d_M_layPush_136 : decode b_M_layPush 136 = .ok (.iadd, 1) := by decide +kernel
theorem d_M_layPush_137 : decode b_M_layPush 137 = .ok (.if_icmp .ge 54, 3) := by decide +kernel
theorem d_M_layPush_140 : decode b_M_layPush 140 = .ok (.aload_n 0, 1) := by decide +kernel
theorem d_M_layPush_141 : decode b_M_layPush 141 = .ok (.getfield 38, 3) := by decide +kernel
theorem d_M_layPush_144 : decode b_M_layPush 144 = .ok (.iload 6, 2) := by decide +kernel
theorem d_M_layPush_146 : decode b_M_layPush 146 = .ok (.iaload, 1) := by decide +kernel
theorem d_M_layPush_147 : decode b_M_layPush 147 = .ok (.ldc 156, 2) := by decide +kernel
theorem d_M_layPush_149 : decode b_M_layPush 149 = .ok (.if_icmp .eq 36, 3) := by decide +kernel
theorem d_M_layPush_152 : decode b_M_layPush 152 = .ok (.aload_n 0, 1) := by decide +kernel
theorem d_M_layPush_153 : decode b_M_layPush 153 = .ok (.getfield 77, 3) := by decide +kernel
theorem d_M_layPush_156 : decode b_M_layPush 156 = .ok (.bipush 61, 2) := by decide +kernel
theorem d_M_layPush_158 : decode b_M_layPush 158 = .ok (.aload_n 0, 1) := by decide +kernel
theorem d_M_layPush_159 : decode b_M_layPush 159 = .ok (.getfield 38, 3) := by decide +kernel
theorem d_M_layPush_162 : decode b_M_layPush 162 = .ok (.iload 6, 2) := by decide +kernel
theorem d_M_layPush_164 : decode b_M_layPush 164 = .ok (.iaload, 1) := by decide +kernel
theorem d_M_layPush_165 : decode b_M_layPush 165 = .ok (.imul, 1) := by decide +kernel
theorem d_M_layPush_166 : decode b_M_layPush 166 = .ok (.aload_n 0, 1) := by decide +kernel
theorem d_M_layPush_167 : decode b_M_layPush 167 = .ok (.getfield 41, 3) := by decide +kernel
theorem d_M_layPush_170 : decode b_M_layPush 170 = .ok (.iload 6, 2) := by decide +kernel
theorem d_M_layPush_172 : decode b_M_layPush 172 = .ok (.iaload, 1) := by decide +kernel
theorem d_M_layPush_173 : decode b_M_layPush 173 = .ok (.iadd, 1) := by decide +kernel
theorem d_M_layPush_174 : decode b_M_layPush 174 = .ok (.dup2, 1) := by decide +kernel
theorem d_M_layPush_175 : decode b_M_layPush 175 = .ok (.laload, 1) := by decide +kernel
theorem d_M_layPush_176 : decode b_M_layPush 176 = .ok (.aload_n 0, 1) := by decide +kernel
theorem d_M_layPush_177 : decode b_M_layPush 177 = .ok (.getfield 81, 3) := by decide +kernel
theorem d_M_layPush_180 : decode b_M_layPush 180 = .ok (.iload 6, 2) := by decide +kernel
theorem d_M_layPush_182 : decode b_M_layPush 182 = .ok (.laload, 1) := by decide +kernel
theorem d_M_layPush_183 : decode b_M_layPush 183 = .ok (.ladd, 1) := by decide +kernel
theorem d_M_layPush_184 : decode b_M_layPush 184 = .ok (.lastore, 1) := by decide +kernel
theorem d_M_layPush_185 : decode b_M_layPush 185 = .ok (.iinc 6 1, 3) := by decide +kernel
theorem d_M_layPush_188 : decode b_M_layPush 188 = .ok (.goto (-58), 3) := by decide +kernel
theorem d_M_layPush_191 : decode b_M_layPush 191 = .ok (.return_, 1) := by decide +kernel
abbrev b_M_cutDown : ByteArray := prog_7_method_22_code
abbrev y_M_cutDown : MethodName := ⟨"OldBeamsModel", "cutDown", "(JJ)J"⟩
theorem d_M_cutDown_0 : decode b_M_cutDown 0 = .ok (.lload_n 0, 1) := by decide +kernel
theorem d_M_cutDown_1 : decode b_M_cutDown 1 = .ok (.lload_n 2, 1) := by decide +kernel
theorem d_M_cutDown_2 : decode b_M_cutDown 2 = .ok (.ldiv, 1) := by decide +kernel
theorem d_M_cutDown_3 : decode b_M_cutDown 3 = .ok (.lstore 4, 2) := by decide +kernel
theorem d_M_cutDown_5 : decode b_M_cutDown 5 = .ok (.lload_n 0, 1) := by decide +kernel
theorem d_M_cutDown_6 : decode b_M_cutDown 6 = .ok (.lload_n 2, 1) := by decide +kernel
theorem d_M_cutDown_7 : decode b_M_cutDown 7 = .ok (.lrem, 1) := by decide +kernel
theorem d_M_cutDown_8 : decode b_M_cutDown 8 = .ok (.lconst 0, 1) := by decide +kernel
theorem d_M_cutDown_9 : decode b_M_cutDown 9 = .ok (.lcmp, 1) := by decide +kernel
theorem d_M_cutDown_10 : decode b_M_cutDown 10 = .ok (.ifCond .ge 10, 3) := by decide +kernel
theorem d_M_cutDown_13 : decode b_M_cutDown 13 = .ok (.lload 4, 2) := by decide +kernel
theorem d_M_cutDown_15 : decode b_M_cutDown 15 = .ok (.lconst 1, 1) := by decide +kernel
theorem d_M_cutDown_16 : decode b_M_cutDown 16 = .ok (.lsub, 1) := by decide +kernel
theorem d_M_cutDown_17 : decode b_M_cutDown 17 = .ok (.goto 5, 3) := by decide +kernel
theorem d_M_cutDown_20 : decode b_M_cutDown 20 = .ok (.lload 4, 2) := by decide +kernel
theorem d_M_cutDown_22 : decode b_M_cutDown 22 = .ok (.lreturn, 1) := by decide +kernel
abbrev b_M_layGreat : ByteArray := prog_7_method_25_code
abbrev y_M_layGreat : MethodName := ⟨"OldBeamsModel", "layGreat", "(I)V"⟩
theorem d_M_layGreat_0 : decode b_M_layGreat 0 = .ok (.aload_n 0, 1) := by decide +kernel
theorem d_M_layGreat_1 : decode b_M_layGreat 1 = .ok (.getfield 84, 3) := by decide +kernel
theorem d_M_layGreat_4 : decode b_M_layGreat 4 = .ok (.iload_n 1, 1) := by decide +kernel
theorem d_M_layGreat_5 : decode b_M_layGreat 5 = .ok (.lconst 0, 1) := by decide +kernel
theorem d_M_layGreat_6 : decode b_M_layGreat 6 = .ok (.lastore, 1) := by decide +kernel
theorem d_M_layGreat_7 : decode b_M_layGreat 7 = .ok (.aload_n 0, 1) := by decide +kernel
theorem d_M_layGreat_8 : decode b_M_layGreat 8 = .ok (.getfield 87, 3) := by decide +kernel
theorem d_M_layGreat_11 : decode b_M_layGreat 11 = .ok (.iload_n 1, 1) := by decide +kernel
theorem d_M_layGreat_12 : decode b_M_layGreat 12 = .ok (.iconst 0, 1) := by decide +kernel
theorem d_M_layGreat_13 : decode b_M_layGreat 13 = .ok (.iastore, 1) := by decide +kernel
theorem d_M_layGreat_14 : decode b_M_layGreat 14 = .ok (.iconst 0, 1) := by decide +kernel
theorem d_M_layGreat_15 : decode b_M_layGreat 15 = .ok (.istore_n 2, 1) := by decide +kernel
theorem d_M_layGreat_16 : decode b_M_layGreat 16 = .ok (.iload_n 2, 1) := by decide +kernel
theorem d_M_layGreat_17 : decode b_M_layGreat 17 = .ok (.aload_n 0, 1) := by decide +kernel
theorem d_M_layGreat_18 : decode b_M_layGreat 18 = .ok (.getfield 19, 3) := by decide +kernel
theorem d_M_layGreat_21 : decode b_M_layGreat 21 = .ok (.iload_n 1, 1) := by decide +kernel
theorem d_M_layGreat_22 : decode b_M_layGreat 22 = .ok (.iaload, 1) := by decide +kernel
theorem d_M_layGreat_23 : decode b_M_layGreat 23 = .ok (.if_icmp .gt 83, 3) := by decide +kernel
theorem d_M_layGreat_26 : decode b_M_layGreat 26 = .ok (.aload_n 0, 1) := by decide +kernel
theorem d_M_layGreat_27 : decode b_M_layGreat 27 = .ok (.iload_n 1, 1) := by decide +kernel
theorem d_M_layGreat_28 : decode b_M_layGreat 28 = .ok (.iload_n 2, 1) := by decide +kernel
theorem d_M_layGreat_29 : decode b_M_layGreat 29 = .ok (.invokevirtual 189, 3) := by decide +kernel
theorem d_M_layGreat_32 : decode b_M_layGreat 32 = .ok (.lstore_n 3, 1) := by decide +kernel
theorem d_M_layGreat_33 : decode b_M_layGreat 33 = .ok (.lload_n 3, 1) := by decide +kernel
theorem d_M_layGreat_34 : decode b_M_layGreat 34 = .ok (.lconst 0, 1) := by decide +kernel
theorem d_M_layGreat_35 : decode b_M_layGreat 35 = .ok (.lcmp, 1) := by decide +kernel
theorem d_M_layGreat_36 : decode b_M_layGreat 36 = .ok (.ifCond .ge 8, 3) := by decide +kernel
theorem d_M_layGreat_39 : decode b_M_layGreat 39 = .ok (.lload_n 3, 1) := by decide +kernel
theorem d_M_layGreat_40 : decode b_M_layGreat 40 = .ok (.lneg, 1) := by decide +kernel
theorem d_M_layGreat_41 : decode b_M_layGreat 41 = .ok (.goto 4, 3) := by decide +kernel
theorem d_M_layGreat_44 : decode b_M_layGreat 44 = .ok (.lload_n 3, 1) := by decide +kernel
theorem d_M_layGreat_45 : decode b_M_layGreat 45 = .ok (.lstore_n 3, 1) := by decide +kernel
theorem d_M_layGreat_46 : decode b_M_layGreat 46 = .ok (.aload_n 0, 1) := by decide +kernel
theorem d_M_layGreat_47 : decode b_M_layGreat 47 = .ok (.getfield 87, 3) := by decide +kernel
theorem d_M_layGreat_50 : decode b_M_layGreat 50 = .ok (.iload_n 1, 1) := by decide +kernel
theorem d_M_layGreat_51 : decode b_M_layGreat 51 = .ok (.lload_n 3, 1) := by decide +kernel
theorem d_M_layGreat_52 : decode b_M_layGreat 52 = .ok (.aload_n 0, 1) := by decide +kernel
theorem d_M_layGreat_53 : decode b_M_layGreat 53 = .ok (.getfield 84, 3) := by decide +kernel
theorem d_M_layGreat_56 : decode b_M_layGreat 56 = .ok (.iload_n 1, 1) := by decide +kernel
theorem d_M_layGreat_57 : decode b_M_layGreat 57 = .ok (.laload, 1) := by decide +kernel
theorem d_M_layGreat_58 : decode b_M_layGreat 58 = .ok (.lcmp, 1) := by decide +kernel
theorem d_M_layGreat_59 : decode b_M_layGreat 59 = .ok (.ifCond .le 7, 3) := by decide +kernel
theorem d_M_layGreat_62 : decode b_M_layGreat 62 = .ok (.iload_n 2, 1) := by decide +kernel
theorem d_M_layGreat_63 : decode b_M_layGreat 63 = .ok (.goto 9, 3) := by decide +kernel
theorem d_M_layGreat_66 : decode b_M_layGreat 66 = .ok (.aload_n 0, 1) := by decide +kernel
theorem d_M_layGreat_67 : decode b_M_layGreat 67 = .ok (.getfield 87, 3) := by decide +kernel
theorem d_M_layGreat_70 : decode b_M_layGreat 70 = .ok (.iload_n 1, 1) := by decide +kernel
theorem d_M_layGreat_71 : decode b_M_layGreat 71 = .ok (.iaload, 1) := by decide +kernel
theorem d_M_layGreat_72 : decode b_M_layGreat 72 = .ok (.iastore, 1) := by decide +kernel
theorem d_M_layGreat_73 : decode b_M_layGreat 73 = .ok (.aload_n 0, 1) := by decide +kernel
theorem d_M_layGreat_74 : decode b_M_layGreat 74 = .ok (.getfield 84, 3) := by decide +kernel
theorem d_M_layGreat_77 : decode b_M_layGreat 77 = .ok (.iload_n 1, 1) := by decide +kernel
theorem d_M_layGreat_78 : decode b_M_layGreat 78 = .ok (.lload_n 3, 1) := by decide +kernel
theorem d_M_layGreat_79 : decode b_M_layGreat 79 = .ok (.aload_n 0, 1) := by decide +kernel
theorem d_M_layGreat_80 : decode b_M_layGreat 80 = .ok (.getfield 84, 3) := by decide +kernel
theorem d_M_layGreat_83 : decode b_M_layGreat 83 = .ok (.iload_n 1, 1) := by decide +kernel
theorem d_M_layGreat_84 : decode b_M_layGreat 84 = .ok (.laload, 1) := by decide +kernel
theorem d_M_layGreat_85 : decode b_M_layGreat 85 = .ok (.lcmp, 1) := by decide +kernel
theorem d_M_layGreat_86 : decode b_M_layGreat 86 = .ok (.ifCond .le 7, 3) := by decide +kernel
theorem d_M_layGreat_89 : decode b_M_layGreat 89 = .ok (.lload_n 3, 1) := by decide +kernel
theorem d_M_layGreat_90 : decode b_M_layGreat 90 = .ok (.goto 9, 3) := by decide +kernel
theorem d_M_layGreat_93 : decode b_M_layGreat 93 = .ok (.aload_n 0, 1) := by decide +kernel
theorem d_M_layGreat_94 : decode b_M_layGreat 94 = .ok (.getfield 84, 3) := by decide +kernel
theorem d_M_layGreat_97 : decode b_M_layGreat 97 = .ok (.iload_n 1, 1) := by decide +kernel
theorem d_M_layGreat_98 : decode b_M_layGreat 98 = .ok (.laload, 1) := by decide +kernel
theorem d_M_layGreat_99 : decode b_M_layGreat 99 = .ok (.lastore, 1) := by decide +kernel
theorem d_M_layGreat_100 : decode b_M_layGreat 100 = .ok (.iinc 2 1, 3) := by decide +kernel
theorem d_M_layGreat_103 : decode b_M_layGreat 103 = .ok (.goto (-87), 3) := by decide +kernel
theorem d_M_layGreat_106 : decode b_M_layGreat 106 = .ok (.return_, 1) := by decide +kernel
abbrev b_M_bendingOf : ByteArray := prog_7_method_24_code
abbrev y_M_bendingOf : MethodName := ⟨"OldBeamsModel", "bendingOf", "(II)J"⟩
theorem d_M_bendingOf_0 : decode b_M_bendingOf 0 = .ok (.lconst 0, 1) := by decide +kernel
theorem d_M_bendingOf_1 : decode b_M_bendingOf 1 = .ok (.lstore_n 3, 1) := by decide +kernel
theorem d_M_bendingOf_2 : decode b_M_bendingOf 2 = .ok (.iconst 0, 1) := by decide +kernel
theorem d_M_bendingOf_3 : decode b_M_bendingOf 3 = .ok (.istore 5, 2) := by decide +kernel
theorem d_M_bendingOf_5 : decode b_M_bendingOf 5 = .ok (.iload 5, 2) := by decide +kernel
theorem d_M_bendingOf_7 : decode b_M_bendingOf 7 = .ok (.iload_n 2, 1) := by decide +kernel
theorem d_M_bendingOf_8 : decode b_M_bendingOf 8 = .ok (.if_icmp .ge 30, 3) := by decide +kernel
theorem d_M_bendingOf_11 : decode b_M_bendingOf 11 = .ok (.lload_n 3, 1) := by decide +kernel
theorem d_M_bendingOf_12 : decode b_M_bendingOf 12 = .ok (.aload_n 0, 1) := by decide +kernel
theorem d_M_bendingOf_13 : decode b_M_bendingOf 13 = .ok (.getfield 77, 3) := by decide +kernel
theorem d_M_bendingOf_16 : decode b_M_bendingOf 16 = .ok (.bipush 61, 2) := by decide +kernel
theorem d_M_bendingOf_18 : decode b_M_bendingOf 18 = .ok (.iload_n 1, 1) := by decide +kernel
theorem d_M_bendingOf_19 : decode b_M_bendingOf 19 = .ok (.imul, 1) := by decide +kernel
theorem d_M_bendingOf_20 : decode b_M_bendingOf 20 = .ok (.iload 5, 2) := by decide +kernel
theorem d_M_bendingOf_22 : decode b_M_bendingOf 22 = .ok (.iadd, 1) := by decide +kernel
theorem d_M_bendingOf_23 : decode b_M_bendingOf 23 = .ok (.laload, 1) := by decide +kernel
theorem d_M_bendingOf_24 : decode b_M_bendingOf 24 = .ok (.iload_n 2, 1) := by decide +kernel
theorem d_M_bendingOf_25 : decode b_M_bendingOf 25 = .ok (.iload 5, 2) := by decide +kernel
theorem d_M_bendingOf_27 : decode b_M_bendingOf 27 = .ok (.isub, 1) := by decide +kernel
theorem d_M_bendingOf_28 : decode b_M_bendingOf 28 = .ok (.i2l, 1) := by decide +kernel
theorem d_M_bendingOf_29 : decode b_M_bendingOf 29 = .ok (.lmul, 1) := by decide +kernel
theorem d_M_bendingOf_30 : decode b_M_bendingOf 30 = .ok (.ladd, 1) := by decide +kernel
theorem d_M_bendingOf_31 : decode b_M_bendingOf 31 = .ok (.lstore_n 3, 1) := by decide +kernel
theorem d_M_bendingOf_32 : decode b_M_bendingOf 32 = .ok (.iinc 5 1, 3) := by decide +kernel
theorem d_M_bendingOf_35 : decode b_M_bendingOf 35 = .ok (.goto (-30), 3) := by decide +kernel
theorem d_M_bendingOf_38 : decode b_M_bendingOf 38 = .ok (.iconst 2, 1) := by decide +kernel
theorem d_M_bendingOf_39 : decode b_M_bendingOf 39 = .ok (.iload_n 1, 1) := by decide +kernel
theorem d_M_bendingOf_40 : decode b_M_bendingOf 40 = .ok (.imul, 1) := by decide +kernel
theorem d_M_bendingOf_41 : decode b_M_bendingOf 41 = .ok (.istore 5, 2) := by decide +kernel
theorem d_M_bendingOf_43 : decode b_M_bendingOf 43 = .ok (.iload 5, 2) := by decide +kernel
theorem d_M_bendingOf_45 : decode b_M_bendingOf 45 = .ok (.iconst 2, 1) := by decide +kernel
theorem d_M_bendingOf_46 : decode b_M_bendingOf 46 = .ok (.iload_n 1, 1) := by decide +kernel
theorem d_M_bendingOf_47 : decode b_M_bendingOf 47 = .ok (.imul, 1) := by decide +kernel
theorem d_M_bendingOf_48 : decode b_M_bendingOf 48 = .ok (.iconst 2, 1) := by decide +kernel
theorem d_M_bendingOf_49 : decode b_M_bendingOf 49 = .ok (.iadd, 1) := by decide +kernel
theorem d_M_bendingOf_50 : decode b_M_bendingOf 50 = .ok (.if_icmp .ge 45, 3) := by decide +kernel
theorem d_M_bendingOf_53 : decode b_M_bendingOf 53 = .ok (.lload_n 3, 1) := by decide +kernel
theorem d_M_bendingOf_54 : decode b_M_bendingOf 54 = .ok (.aload_n 0, 1) := by decide +kernel
theorem d_M_bendingOf_55 : decode b_M_bendingOf 55 = .ok (.getfield 35, 3) := by decide +kernel
theorem d_M_bendingOf_58 : decode b_M_bendingOf 58 = .ok (.iload 5, 2) := by decide +kernel
theorem d_M_bendingOf_60 : decode b_M_bendingOf 60 = .ok (.iaload, 1) := by decide +kernel
theorem d_M_bendingOf_61 : decode b_M_bendingOf 61 = .ok (.iload_n 2, 1) := by decide +kernel
theorem d_M_bendingOf_62 : decode b_M_bendingOf 62 = .ok (.if_icmp .ge 24, 3) := by decide +kernel
theorem d_M_bendingOf_65 : decode b_M_bendingOf 65 = .ok (.aload_n 0, 1) := by decide +kernel
theorem d_M_bendingOf_66 : decode b_M_bendingOf 66 = .ok (.getfield 81, 3) := by decide +kernel
theorem d_M_bendingOf_69 : decode b_M_bendingOf 69 = .ok (.iload 5, 2) := by decide +kernel
theorem d_M_bendingOf_71 : decode b_M_bendingOf 71 = .ok (.laload, 1) := by decide +kernel
theorem d_M_bendingOf_72 : decode b_M_bendingOf 72 = .ok (.iload_n 2, 1) := by decide +kernel
theorem d_M_bendingOf_73 : decode b_M_bendingOf 73 = .ok (.aload_n 0, 1) := by decide +kernel
theorem d_M_bendingOf_74 : decode b_M_bendingOf 74 = .ok (.getfield 35, 3) := by decide +kernel
theorem d_M_bendingOf_77 : decode b_M_bendingOf 77 = .ok (.iload 5, 2) := by decide +kernel
theorem d_M_bendingOf_79 : decode b_M_bendingOf 79 = .ok (.iaload, 1) := by decide +kernel
theorem d_M_bendingOf_80 : decode b_M_bendingOf 80 = .ok (.isub, 1) := by decide +kernel
theorem d_M_bendingOf_81 : decode b_M_bendingOf 81 = .ok (.i2l, 1) := by decide +kernel
theorem d_M_bendingOf_82 : decode b_M_bendingOf 82 = .ok (.lmul, 1) := by decide +kernel
theorem d_M_bendingOf_83 : decode b_M_bendingOf 83 = .ok (.goto 4, 3) := by decide +kernel
theorem d_M_bendingOf_86 : decode b_M_bendingOf 86 = .ok (.lconst 0, 1) := by decide +kernel
theorem d_M_bendingOf_87 : decode b_M_bendingOf 87 = .ok (.lsub, 1) := by decide +kernel
theorem d_M_bendingOf_88 : decode b_M_bendingOf 88 = .ok (.lstore_n 3, 1) := by decide +kernel
theorem d_M_bendingOf_89 : decode b_M_bendingOf 89 = .ok (.iinc 5 1, 3) := by decide +kernel
theorem d_M_bendingOf_92 : decode b_M_bendingOf 92 = .ok (.goto (-49), 3) := by decide +kernel
theorem d_M_bendingOf_95 : decode b_M_bendingOf 95 = .ok (.lload_n 3, 1) := by decide +kernel
theorem d_M_bendingOf_96 : decode b_M_bendingOf 96 = .ok (.lreturn, 1) := by decide +kernel
abbrev b_M_whole : ByteArray := prog_7_method_12_code
abbrev y_M_whole : MethodName := ⟨"OldBeamsModel", "whole", "(I)I"⟩
theorem d_M_whole_0 : decode b_M_whole 0 = .ok (.aload_n 0, 1) := by decide +kernel
theorem d_M_whole_1 : decode b_M_whole 1 = .ok (.getfield 7, 3) := by decide +kernel
theorem d_M_whole_4 : decode b_M_whole 4 = .ok (.aload_n 0, 1) := by decide +kernel
theorem d_M_whole_5 : decode b_M_whole 5 = .ok (.getfield 16, 3) := by decide +kernel
theorem d_M_whole_8 : decode b_M_whole 8 = .ok (.iload_n 1, 1) := by decide +kernel
theorem d_M_whole_9 : decode b_M_whole 9 = .ok (.iaload, 1) := by decide +kernel
theorem d_M_whole_10 : decode b_M_whole 10 = .ok (.iaload, 1) := by decide +kernel
theorem d_M_whole_11 : decode b_M_whole 11 = .ok (.aload_n 0, 1) := by decide +kernel
theorem d_M_whole_12 : decode b_M_whole 12 = .ok (.getfield 22, 3) := by decide +kernel
theorem d_M_whole_15 : decode b_M_whole 15 = .ok (.iload_n 1, 1) := by decide +kernel
theorem d_M_whole_16 : decode b_M_whole 16 = .ok (.iaload, 1) := by decide +kernel
theorem d_M_whole_17 : decode b_M_whole 17 = .ok (.imul, 1) := by decide +kernel
theorem d_M_whole_18 : decode b_M_whole 18 = .ok (.aload_n 0, 1) := by decide +kernel
theorem d_M_whole_19 : decode b_M_whole 19 = .ok (.getfield 25, 3) := by decide +kernel
theorem d_M_whole_22 : decode b_M_whole 22 = .ok (.iload_n 1, 1) := by decide +kernel
theorem d_M_whole_23 : decode b_M_whole 23 = .ok (.iaload, 1) := by decide +kernel
theorem d_M_whole_24 : decode b_M_whole 24 = .ok (.imul, 1) := by decide +kernel
theorem d_M_whole_25 : decode b_M_whole 25 = .ok (.aload_n 0, 1) := by decide +kernel
theorem d_M_whole_26 : decode b_M_whole 26 = .ok (.getfield 25, 3) := by decide +kernel
theorem d_M_whole_29 : decode b_M_whole 29 = .ok (.iload_n 1, 1) := by decide +kernel
theorem d_M_whole_30 : decode b_M_whole 30 = .ok (.iaload, 1) := by decide +kernel
theorem d_M_whole_31 : decode b_M_whole 31 = .ok (.imul, 1) := by decide +kernel
theorem d_M_whole_32 : decode b_M_whole 32 = .ok (.bipush 100, 2) := by decide +kernel
theorem d_M_whole_34 : decode b_M_whole 34 = .ok (.idiv, 1) := by decide +kernel
theorem d_M_whole_35 : decode b_M_whole 35 = .ok (.ireturn, 1) := by decide +kernel
abbrev b_M_wet : ByteArray := prog_7_method_14_code
abbrev y_M_wet : MethodName := ⟨"OldBeamsModel", "wet", "(IZ)I"⟩
theorem d_M_wet_0 : decode b_M_wet 0 = .ok (.aload_n 0, 1) := by decide +kernel
theorem d_M_wet_1 : decode b_M_wet 1 = .ok (.iload_n 1, 1) := by decide +kernel
theorem d_M_wet_2 : decode b_M_wet 2 = .ok (.invokevirtual 157, 3) := by decide +kernel
theorem d_M_wet_5 : decode b_M_wet 5 = .ok (.ifCond .ne 6, 3) := by decide +kernel
theorem d_M_wet_8 : decode b_M_wet 8 = .ok (.ldc 136, 2) := by decide +kernel
theorem d_M_wet_10 : decode b_M_wet 10 = .ok (.ireturn, 1) := by decide +kernel
theorem d_M_wet_11 : decode b_M_wet 11 = .ok (.aload_n 0, 1) := by decide +kernel
theorem d_M_wet_12 : decode b_M_wet 12 = .ok (.getfield 28, 3) := by decide +kernel
theorem d_M_wet_15 : decode b_M_wet 15 = .ok (.iload_n 1, 1) := by decide +kernel
theorem d_M_wet_16 : decode b_M_wet 16 = .ok (.baload, 1) := by decide +kernel
theorem d_M_wet_17 : decode b_M_wet 17 = .ok (.ifCond .eq 7, 3) := by decide +kernel
theorem d_M_wet_20 : decode b_M_wet 20 = .ok (.iconst 1, 1) := by decide +kernel
theorem d_M_wet_21 : decode b_M_wet 21 = .ok (.goto 4, 3) := by decide +kernel
theorem d_M_wet_24 : decode b_M_wet 24 = .ok (.iconst 0, 1) := by decide +kernel
theorem d_M_wet_25 : decode b_M_wet 25 = .ok (.istore_n 3, 1) := by decide +kernel
theorem d_M_wet_26 : decode b_M_wet 26 = .ok (.aload_n 0, 1) := by decide +kernel
theorem d_M_wet_27 : decode b_M_wet 27 = .ok (.getfield 28, 3) := by decide +kernel
theorem d_M_wet_30 : decode b_M_wet 30 = .ok (.iload_n 1, 1) := by decide +kernel
theorem d_M_wet_31 : decode b_M_wet 31 = .ok (.iload_n 2, 1) := by decide +kernel
theorem d_M_wet_32 : decode b_M_wet 32 = .ok (.bastore, 1) := by decide +kernel
theorem d_M_wet_33 : decode b_M_wet 33 = .ok (.iload_n 3, 1) := by decide +kernel
theorem d_M_wet_34 : decode b_M_wet 34 = .ok (.ireturn, 1) := by decide +kernel
abbrev b_M_load : ByteArray := prog_7_method_15_code
abbrev y_M_load : MethodName := ⟨"OldBeamsModel", "load", "(III)I"⟩
theorem d_M_load_0 : decode b_M_load 0 = .ok (.aload_n 0, 1) := by decide +kernel
theorem d_M_load_1 : decode b_M_load 1 = .ok (.iload_n 1, 1) := by decide +kernel
theorem d_M_load_2 : decode b_M_load 2 = .ok (.invokevirtual 157, 3) := by decide +kernel
theorem d_M_load_5 : decode b_M_load 5 = .ok (.ifCond .ne 6, 3) := by decide +kernel
theorem d_M_load_8 : decode b_M_load 8 = .ok (.ldc 136, 2) := by decide +kernel
theorem d_M_load_10 : decode b_M_load 10 = .ok (.ireturn, 1) := by decide +kernel
theorem d_M_load_11 : decode b_M_load 11 = .ok (.iload_n 2, 1) := by decide +kernel
theorem d_M_load_12 : decode b_M_load 12 = .ok (.i2l, 1) := by decide +kernel
theorem d_M_load_13 : decode b_M_load 13 = .ok (.lconst 0, 1) := by decide +kernel
theorem d_M_load_14 : decode b_M_load 14 = .ok (.aload_n 0, 1) := by decide +kernel
theorem d_M_load_15 : decode b_M_load 15 = .ok (.getfield 19, 3) := by decide +kernel
theorem d_M_load_18 : decode b_M_load 18 = .ok (.iload_n 1, 1) := by decide +kernel
theorem d_M_load_19 : decode b_M_load 19 = .ok (.iaload, 1) := by decide +kernel
theorem d_M_load_20 : decode b_M_load 20 = .ok (.i2l, 1) := by decide +kernel
theorem d_M_load_21 : decode b_M_load 21 = .ok (.invokestatic 126, 3) := by decide +kernel
theorem d_M_load_24 : decode b_M_load 24 = .ok (.ifCond .eq 15, 3) := by decide +kernel
theorem d_M_load_27 : decode b_M_load 27 = .ok (.iload_n 3, 1) := by decide +kernel
theorem d_M_load_28 : decode b_M_load 28 = .ok (.i2l, 1) := by decide +kernel
theorem d_M_load_29 : decode b_M_load 29 = .ok (.lconst 1, 1) := by decide +kernel
theorem d_M_load_30 : decode b_M_load 30 = .ok (.ldc2_w 168, 3) := by decide +kernel
theorem d_M_load_33 : decode b_M_load 33 = .ok (.invokestatic 126, 3) := by decide +kernel
theorem d_M_load_36 : decode b_M_load 36 = .ok (.ifCond .ne 6, 3) := by decide +kernel
theorem d_M_load_39 : decode b_M_load 39 = .ok (.ldc 143, 2) := by decide +kernel
theorem d_M_load_41 : decode b_M_load 41 = .ok (.ireturn, 1) := by decide +kernel
theorem d_M_load_42 : decode b_M_load 42 = .ok (.aload_n 0, 1) := by decide +kernel
theorem d_M_load_43 : decode b_M_load 43 = .ok (.getfield 170, 3) := by decide +kernel
theorem d_M_load_46 : decode b_M_load 46 = .ok (.bipush 40, 2) := by decide +kernel
theorem d_M_load_48 : decode b_M_load 48 = .ok (.if_icmp .ne 6, 3) := by decide +kernel
theorem d_M_load_51 : decode b_M_load 51 = .ok (.ldc 155, 2) := by decide +kernel
theorem d_M_load_53 : decode b_M_load 53 = .ok (.ireturn, 1) := by decide +kernel
theorem d_M_load_54 : decode b_M_load 54 = .ok (.aload_n 0, 1) := by decide +kernel
theorem d_M_load_55 : decode b_M_load 55 = .ok (.getfield 44, 3) := by decide +kernel
theorem d_M_load_58 : decode b_M_load 58 = .ok (.aload_n 0, 1) := by decide +kernel
theorem d_M_load_59 : decode b_M_load 59 = .ok (.getfield 170, 3) := by decide +kernel
theorem d_M_load_62 : decode b_M_load 62 = .ok (.iload_n 1, 1) := by decide +kernel
theorem d_M_load_63 : decode b_M_load 63 = .ok (.iastore, 1) := by decide +kernel
theorem d_M_load_64 : decode b_M_load 64 = .ok (.aload_n 0, 1) := by decide +kernel
theorem d_M_load_65 : decode b_M_load 65 = .ok (.getfield 47, 3) := by decide +kernel
theorem d_M_load_68 : decode b_M_load 68 = .ok (.aload_n 0, 1) := by decide +kernel
theorem d_M_load_69 : decode b_M_load 69 = .ok (.getfield 170, 3) := by decide +kernel
theorem d_M_load_72 : decode b_M_load 72 = .ok (.iload_n 2, 1) := by decide +kernel
theorem d_M_load_73 : decode b_M_load 73 = .ok (.iastore, 1) := by decide +kernel
theorem d_M_load_74 : decode b_M_load 74 = .ok (.aload_n 0, 1) := by decide +kernel
theorem d_M_load_75 : decode b_M_load 75 = .ok (.getfield 50, 3) := by decide +kernel
theorem d_M_load_78 : decode b_M_load 78 = .ok (.aload_n 0, 1) := by decide +kernel
theorem d_M_load_79 : decode b_M_load 79 = .ok (.getfield 170, 3) := by decide +kernel
theorem d_M_load_82 : decode b_M_load 82 = .ok (.iload_n 3, 1) := by decide +kernel
theorem d_M_load_83 : decode b_M_load 83 = .ok (.iastore, 1) := by decide +kernel
theorem d_M_load_84 : decode b_M_load 84 = .ok (.aload_n 0, 1) := by decide +kernel
theorem d_M_load_85 : decode b_M_load 85 = .ok (.dup, 1) := by decide +kernel
theorem d_M_load_86 : decode b_M_load 86 = .ok (.getfield 170, 3) := by decide +kernel
theorem d_M_load_89 : decode b_M_load 89 = .ok (.iconst 1, 1) := by decide +kernel
theorem d_M_load_90 : decode b_M_load 90 = .ok (.iadd, 1) := by decide +kernel
theorem d_M_load_91 : decode b_M_load 91 = .ok (.putfield 170, 3) := by decide +kernel
theorem d_M_load_94 : decode b_M_load 94 = .ok (.aload_n 0, 1) := by decide +kernel
theorem d_M_load_95 : decode b_M_load 95 = .ok (.getfield 170, 3) := by decide +kernel
theorem d_M_load_98 : decode b_M_load 98 = .ok (.iconst 1, 1) := by decide +kernel
theorem d_M_load_99 : decode b_M_load 99 = .ok (.isub, 1) := by decide +kernel
theorem d_M_load_100 : decode b_M_load 100 = .ok (.ireturn, 1) := by decide +kernel
abbrev b_M_takeOff : ByteArray := prog_7_method_16_code
abbrev y_M_takeOff : MethodName := ⟨"OldBeamsModel", "takeOff", "(I)I"⟩
theorem d_M_takeOff_0 : decode b_M_takeOff 0 = .ok (.iload_n 1, 1) := by decide +kernel
theorem d_M_takeOff_1 : decode b_M_takeOff 1 = .ok (.i2l, 1) := by decide +kernel
theorem d_M_takeOff_2 : decode b_M_takeOff 2 = .ok (.lconst 0, 1) := by decide +kernel
theorem d_M_takeOff_3 : decode b_M_takeOff 3 = .ok (.aload_n 0, 1) := by decide +kernel
theorem d_M_takeOff_4 : decode b_M_takeOff 4 = .ok (.getfield 170, 3) := by decide +kernel
theorem d_M_takeOff_7 : decode b_M_takeOff 7 = .ok (.iconst 1, 1) := by decide +kernel
theorem d_M_takeOff_8 : decode b_M_takeOff 8 = .ok (.isub, 1) := by decide +kernel
theorem d_M_takeOff_9 : decode b_M_takeOff 9 = .ok (.i2l, 1) := by decide +kernel
theorem d_M_takeOff_10 : decode b_M_takeOff 10 = .ok (.invokestatic 126, 3) := by decide +kernel
theorem d_M_takeOff_13 : decode b_M_takeOff 13 = .ok (.ifCond .ne 6, 3) := by decide +kernel
theorem d_M_takeOff_16 : decode b_M_takeOff 16 = .ok (.ldc 136, 2) := by decide +kernel
theorem d_M_takeOff_18 : decode b_M_takeOff 18 = .ok (.ireturn, 1) := by decide +kernel
theorem d_M_takeOff_19 : decode b_M_takeOff 19 = .ok (.aload_n 0, 1) := by decide +kernel
theorem d_M_takeOff_20 : decode b_M_takeOff 20 = .ok (.getfield 53, 3) := by decide +kernel
theorem d_M_takeOff_23 : decode b_M_takeOff 23 = .ok (.iload_n 1, 1) := by decide +kernel
theorem d_M_takeOff_24 : decode b_M_takeOff 24 = .ok (.baload, 1) := by decide +kernel
theorem d_M_takeOff_25 : decode b_M_takeOff 25 = .ok (.ifCond .eq 6, 3) := by decide +kernel
theorem d_M_takeOff_28 : decode b_M_takeOff 28 = .ok (.ldc 160, 2) := by decide +kernel
theorem d_M_takeOff_30 : decode b_M_takeOff 30 = .ok (.ireturn, 1) := by decide +kernel
theorem d_M_takeOff_31 : decode b_M_takeOff 31 = .ok (.aload_n 0, 1) := by decide +kernel
theorem d_M_takeOff_32 : decode b_M_takeOff 32 = .ok (.getfield 53, 3) := by decide +kernel
theorem d_M_takeOff_35 : decode b_M_takeOff 35 = .ok (.iload_n 1, 1) := by decide +kernel
theorem d_M_takeOff_36 : decode b_M_takeOff 36 = .ok (.iconst 1, 1) := by decide +kernel
theorem d_M_takeOff_37 : decode b_M_takeOff 37 = .ok (.bastore, 1) := by decide +kernel
theorem d_M_takeOff_38 : decode b_M_takeOff 38 = .ok (.aload_n 0, 1) := by decide +kernel
theorem d_M_takeOff_39 : decode b_M_takeOff 39 = .ok (.getfield 50, 3) := by decide +kernel
theorem d_M_takeOff_42 : decode b_M_takeOff 42 = .ok (.iload_n 1, 1) := by decide +kernel
theorem d_M_takeOff_43 : decode b_M_takeOff 43 = .ok (.iaload, 1) := by decide +kernel
theorem d_M_takeOff_44 : decode b_M_takeOff 44 = .ok (.ireturn, 1) := by decide +kernel
abbrev b_M_prop : ByteArray := prog_7_method_17_code
abbrev y_M_prop : MethodName := ⟨"OldBeamsModel", "prop", "(III)I"⟩
theorem d_M_prop_0 : decode b_M_prop 0 = .ok (.aload_n 0, 1) := by decide +kernel
theorem d_M_prop_1 : decode b_M_prop 1 = .ok (.iload_n 1, 1) := by decide +kernel
theorem d_M_prop_2 : decode b_M_prop 2 = .ok (.invokevirtual 157, 3) := by decide +kernel
theorem d_M_prop_5 : decode b_M_prop 5 = .ok (.ifCond .ne 6, 3) := by decide +kernel
theorem d_M_prop_8 : decode b_M_prop 8 = .ok (.ldc 136, 2) := by decide +kernel
theorem d_M_prop_10 : decode b_M_prop 10 = .ok (.ireturn, 1) := by decide +kernel
theorem d_M_prop_11 : decode b_M_prop 11 = .ok (.iload_n 2, 1) := by decide +kernel
theorem d_M_prop_12 : decode b_M_prop 12 = .ok (.i2l, 1) := by decide +kernel
theorem d_M_prop_13 : decode b_M_prop 13 = .ok (.lconst 0, 1) := by decide +kernel
theorem d_M_prop_14 : decode b_M_prop 14 = .ok (.aload_n 0, 1) := by decide +kernel
theorem d_M_prop_15 : decode b_M_prop 15 = .ok (.getfield 19, 3) := by decide +kernel
theorem d_M_prop_18 : decode b_M_prop 18 = .ok (.iload_n 1, 1) := by decide +kernel
theorem d_M_prop_19 : decode b_M_prop 19 = .ok (.iaload, 1) := by decide +kernel
theorem d_M_prop_20 : decode b_M_prop 20 = .ok (.i2l, 1) := by decide +kernel
theorem d_M_prop_21 : decode b_M_prop 21 = .ok (.invokestatic 126, 3) := by decide +kernel
theorem d_M_prop_24 : decode b_M_prop 24 = .ok (.ifCond .eq 15, 3) := by decide +kernel
theorem d_M_prop_27 : decode b_M_prop 27 = .ok (.iload_n 3, 1) := by decide +kernel
theorem d_M_prop_28 : decode b_M_prop 28 = .ok (.i2l, 1) := by decide +kernel
theorem d_M_prop_29 : decode b_M_prop 29 = .ok (.lconst 1, 1) := by decide +kernel
theorem d_M_prop_30 : decode b_M_prop 30 = .ok (.ldc2_w 168, 3) := by decide +kernel
theorem d_M_prop_33 : decode b_M_prop 33 = .ok (.invokestatic 126, 3) := by decide +kernel
theorem d_M_prop_36 : decode b_M_prop 36 = .ok (.ifCond .ne 6, 3) := by decide +kernel
theorem d_M_prop_39 : decode b_M_prop 39 = .ok (.ldc 143, 2) := by decide +kernel
theorem d_M_prop_41 : decode b_M_prop 41 = .ok (.ireturn, 1) := by decide +kernel
theorem d_M_prop_42 : decode b_M_prop 42 = .ok (.aload_n 0, 1) := by decide +kernel
theorem d_M_prop_43 : decode b_M_prop 43 = .ok (.getfield 173, 3) := by decide +kernel
theorem d_M_prop_46 : decode b_M_prop 46 = .ok (.bipush 8, 2) := by decide +kernel
theorem d_M_prop_48 : decode b_M_prop 48 = .ok (.if_icmp .ne 6, 3) := by decide +kernel
theorem d_M_prop_51 : decode b_M_prop 51 = .ok (.ldc 155, 2) := by decide +kernel
theorem d_M_prop_53 : decode b_M_prop 53 = .ok (.ireturn, 1) := by decide +kernel
theorem d_M_prop_54 : decode b_M_prop 54 = .ok (.aload_n 0, 1) := by decide +kernel
theorem d_M_prop_55 : decode b_M_prop 55 = .ok (.getfield 56, 3) := by decide +kernel
theorem d_M_prop_58 : decode b_M_prop 58 = .ok (.aload_n 0, 1) := by decide +kernel
theorem d_M_prop_59 : decode b_M_prop 59 = .ok (.getfield 173, 3) := by decide +kernel
theorem d_M_prop_62 : decode b_M_prop 62 = .ok (.iload_n 1, 1) := by decide +kernel
theorem d_M_prop_63 : decode b_M_prop 63 = .ok (.iastore, 1) := by decide +kernel
theorem d_M_prop_64 : decode b_M_prop 64 = .ok (.aload_n 0, 1) := by decide +kernel
theorem d_M_prop_65 : decode b_M_prop 65 = .ok (.getfield 59, 3) := by decide +kernel
theorem d_M_prop_68 : decode b_M_prop 68 = .ok (.aload_n 0, 1) := by decide +kernel
theorem d_M_prop_69 : decode b_M_prop 69 = .ok (.getfield 173, 3) := by decide +kernel
theorem d_M_prop_72 : decode b_M_prop 72 = .ok (.iload_n 2, 1) := by decide +kernel
theorem d_M_prop_73 : decode b_M_prop 73 = .ok (.iastore, 1) := by decide +kernel
theorem d_M_prop_74 : decode b_M_prop 74 = .ok (.aload_n 0, 1) := by decide +kernel
theorem d_M_prop_75 : decode b_M_prop 75 = .ok (.getfield 62, 3) := by decide +kernel
theorem d_M_prop_78 : decode b_M_prop 78 = .ok (.aload_n 0, 1) := by decide +kernel
theorem d_M_prop_79 : decode b_M_prop 79 = .ok (.getfield 173, 3) := by decide +kernel
theorem d_M_prop_82 : decode b_M_prop 82 = .ok (.iload_n 3, 1) := by decide +kernel
theorem d_M_prop_83 : decode b_M_prop 83 = .ok (.iastore, 1) := by decide +kernel
theorem d_M_prop_84 : decode b_M_prop 84 = .ok (.aload_n 0, 1) := by decide +kernel
theorem d_M_prop_85 : decode b_M_prop 85 = .ok (.dup, 1) := by decide +kernel
theorem d_M_prop_86 : decode b_M_prop 86 = .ok (.getfield 173, 3) := by decide +kernel
theorem d_M_prop_89 : decode b_M_prop 89 = .ok (.iconst 1, 1) := by decide +kernel
theorem d_M_prop_90 : decode b_M_prop 90 = .ok (.iadd, 1) := by decide +kernel
theorem d_M_prop_91 : decode b_M_prop 91 = .ok (.putfield 173, 3) := by decide +kernel
theorem d_M_prop_94 : decode b_M_prop 94 = .ok (.aload_n 0, 1) := by decide +kernel
theorem d_M_prop_95 : decode b_M_prop 95 = .ok (.getfield 173, 3) := by decide +kernel
theorem d_M_prop_98 : decode b_M_prop 98 = .ok (.iconst 1, 1) := by decide +kernel
theorem d_M_prop_99 : decode b_M_prop 99 = .ok (.isub, 1) := by decide +kernel
theorem d_M_prop_100 : decode b_M_prop 100 = .ok (.ireturn, 1) := by decide +kernel
abbrev b_M_set : ByteArray := prog_7_method_18_code
abbrev y_M_set : MethodName := ⟨"OldBeamsModel", "set", "(IZ)I"⟩
theorem d_M_set_0 : decode b_M_set 0 = .ok (.iload_n 1, 1) := by decide +kernel
theorem d_M_set_1 : decode b_M_set 1 = .ok (.i2l, 1) := by decide +kernel
theorem d_M_set_2 : decode b_M_set 2 = .ok (.lconst 0, 1) := by decide +kernel
theorem d_M_set_3 : decode b_M_set 3 = .ok (.aload_n 0, 1) := by decide +kernel
theorem d_M_set_4 : decode b_M_set 4 = .ok (.getfield 173, 3) := by decide +kernel
theorem d_M_set_7 : decode b_M_set 7 = .ok (.iconst 1, 1) := by decide +kernel
theorem d_M_set_8 : decode b_M_set 8 = .ok (.isub, 1) := by decide +kernel
theorem d_M_set_9 : decode b_M_set 9 = .ok (.i2l, 1) := by decide +kernel
theorem d_M_set_10 : decode b_M_set 10 = .ok (.invokestatic 126, 3) := by decide +kernel
theorem d_M_set_13 : decode b_M_set 13 = .ok (.ifCond .ne 6, 3) := by decide +kernel
theorem d_M_set_16 : decode b_M_set 16 = .ok (.ldc 136, 2) := by decide +kernel
theorem d_M_set_18 : decode b_M_set 18 = .ok (.ireturn, 1) := by decide +kernel
theorem d_M_set_19 : decode b_M_set 19 = .ok (.aload_n 0, 1) := by decide +kernel
theorem d_M_set_20 : decode b_M_set 20 = .ok (.getfield 65, 3) := by decide +kernel
theorem d_M_set_23 : decode b_M_set 23 = .ok (.iload_n 1, 1) := by decide +kernel
theorem d_M_set_24 : decode b_M_set 24 = .ok (.baload, 1) := by decide +kernel
theorem d_M_set_25 : decode b_M_set 25 = .ok (.ifCond .eq 7, 3) := by decide +kernel
theorem d_M_set_28 : decode b_M_set 28 = .ok (.iconst 1, 1) := by decide +kernel
theorem d_M_set_29 : decode b_M_set 29 = .ok (.goto 4, 3) := by decide +kernel
theorem d_M_set_32 : decode b_M_set 32 = .ok (.iconst 0, 1) := by decide +kernel
theorem d_M_set_33 : decode b_M_set 33 = .ok (.istore_n 3, 1) := by decide +kernel
theorem d_M_set_34 : decode b_M_set 34 = .ok (.aload_n 0, 1) := by decide +kernel
theorem d_M_set_35 : decode b_M_set 35 = .ok (.getfield 65, 3) := by decide +kernel
theorem d_M_set_38 : decode b_M_set 38 = .ok (.iload_n 1, 1) := by decide +kernel
theorem d_M_set_39 : decode b_M_set 39 = .ok (.iload_n 2, 1) := by decide +kernel
theorem d_M_set_40 : decode b_M_set 40 = .ok (.bastore, 1) := by decide +kernel
theorem d_M_set_41 : decode b_M_set 41 = .ok (.iload_n 3, 1) := by decide +kernel
theorem d_M_set_42 : decode b_M_set 42 = .ok (.ireturn, 1) := by decide +kernel
abbrev b_M_fall : ByteArray := prog_7_method_30_code
abbrev y_M_fall : MethodName := ⟨"OldBeamsModel", "fall", "(I)I"⟩
theorem d_M_fall_0 : decode b_M_fall 0 = .ok (.aload_n 0, 1) := by decide +kernel
theorem d_M_fall_1 : decode b_M_fall 1 = .ok (.iload_n 1, 1) := by decide +kernel
theorem d_M_fall_2 : decode b_M_fall 2 = .ok (.invokevirtual 157, 3) := by decide +kernel
theorem d_M_fall_5 : decode b_M_fall 5 = .ok (.ifCond .ne 6, 3) := by decide +kernel
theorem d_M_fall_8 : decode b_M_fall 8 = .ok (.ldc 136, 2) := by decide +kernel
theorem d_M_fall_10 : decode b_M_fall 10 = .ok (.ireturn, 1) := by decide +kernel
theorem d_M_fall_11 : decode b_M_fall 11 = .ok (.aload_n 0, 1) := by decide +kernel
theorem d_M_fall_12 : decode b_M_fall 12 = .ok (.getfield 32, 3) := by decide +kernel
theorem d_M_fall_15 : decode b_M_fall 15 = .ok (.iload_n 1, 1) := by decide +kernel
theorem d_M_fall_16 : decode b_M_fall 16 = .ok (.baload, 1) := by decide +kernel
theorem d_M_fall_17 : decode b_M_fall 17 = .ok (.ifCond .eq 6, 3) := by decide +kernel
theorem d_M_fall_20 : decode b_M_fall 20 = .ok (.ldc 160, 2) := by decide +kernel
theorem d_M_fall_22 : decode b_M_fall 22 = .ok (.ireturn, 1) := by decide +kernel
theorem d_M_fall_23 : decode b_M_fall 23 = .ok (.aload_n 0, 1) := by decide +kernel
theorem d_M_fall_24 : decode b_M_fall 24 = .ok (.getfield 32, 3) := by decide +kernel
theorem d_M_fall_27 : decode b_M_fall 27 = .ok (.iload_n 1, 1) := by decide +kernel
theorem d_M_fall_28 : decode b_M_fall 28 = .ok (.iconst 1, 1) := by decide +kernel
theorem d_M_fall_29 : decode b_M_fall 29 = .ok (.bastore, 1) := by decide +kernel
theorem d_M_fall_30 : decode b_M_fall 30 = .ok (.aload_n 0, 1) := by decide +kernel
theorem d_M_fall_31 : decode b_M_fall 31 = .ok (.invokevirtual 161, 3) := by decide +kernel
theorem d_M_fall_34 : decode b_M_fall 34 = .ok (.aload_n 0, 1) := by decide +kernel
theorem d_M_fall_35 : decode b_M_fall 35 = .ok (.invokevirtual 202, 3) := by decide +kernel
theorem d_M_fall_38 : decode b_M_fall 38 = .ok (.ireturn, 1) := by decide +kernel
abbrev b_M_downMany : ByteArray := prog_7_method_29_code
abbrev y_M_downMany : MethodName := ⟨"OldBeamsModel", "downMany", "()I"⟩
theorem d_M_downMany_0 : decode b_M_downMany 0 = .ok (.iconst 0, 1) := by decide +kernel
theorem d_M_downMany_1 : decode b_M_downMany 1 = .ok (.istore_n 1, 1) := by decide +kernel
theorem d_M_downMany_2 : decode b_M_downMany 2 = .ok (.iconst 0, 1) := by decide +kernel
theorem d_M_downMany_3 : decode b_M_downMany 3 = .ok (.istore_n 2, 1) := by decide +kernel
theorem d_M_downMany_4 : decode b_M_downMany 4 = .ok (.iload_n 2, 1) := by decide +kernel
theorem d_M_downMany_5 : decode b_M_downMany 5 = .ok (.aload_n 0, 1) := by decide +kernel
theorem d_M_downMany_6 : decode b_M_downMany 6 = .ok (.getfield 144, 3) := by decide +kernel
theorem d_M_downMany_9 : decode b_M_downMany 9 = .ok (.if_icmp .ge 26, 3) := by decide +kernel
theorem d_M_downMany_12 : decode b_M_downMany 12 = .ok (.iload_n 1, 1) := by decide +kernel
theorem d_M_downMany_13 : decode b_M_downMany 13 = .ok (.aload_n 0, 1) := by decide +kernel
theorem d_M_downMany_14 : decode b_M_downMany 14 = .ok (.getfield 74, 3) := by decide +kernel
theorem d_M_downMany_17 : decode b_M_downMany 17 = .ok (.iload_n 2, 1) := by decide +kernel
theorem d_M_downMany_18 : decode b_M_downMany 18 = .ok (.baload, 1) := by decide +kernel
theorem d_M_downMany_19 : decode b_M_downMany 19 = .ok (.ifCond .eq 7, 3) := by decide +kernel
theorem d_M_downMany_22 : decode b_M_downMany 22 = .ok (.iconst 1, 1) := by decide +kernel
theorem d_M_downMany_23 : decode b_M_downMany 23 = .ok (.goto 4, 3) := by decide +kernel
theorem d_M_downMany_26 : decode b_M_downMany 26 = .ok (.iconst 0, 1) := by decide +kernel
theorem d_M_downMany_27 : decode b_M_downMany 27 = .ok (.iadd, 1) := by decide +kernel
theorem d_M_downMany_28 : decode b_M_downMany 28 = .ok (.istore_n 1, 1) := by decide +kernel
theorem d_M_downMany_29 : decode b_M_downMany 29 = .ok (.iinc 2 1, 3) := by decide +kernel
theorem d_M_downMany_32 : decode b_M_downMany 32 = .ok (.goto (-28), 3) := by decide +kernel
theorem d_M_downMany_35 : decode b_M_downMany 35 = .ok (.iload_n 1, 1) := by decide +kernel
theorem d_M_downMany_36 : decode b_M_downMany 36 = .ok (.ireturn, 1) := by decide +kernel
abbrev b_M_push : ByteArray := prog_7_method_32_code
abbrev y_M_push : MethodName := ⟨"OldBeamsModel", "push", "(II)J"⟩
theorem d_M_push_0 : decode b_M_push 0 = .ok (.aload_n 0, 1) := by decide +kernel
theorem d_M_push_1 : decode b_M_push 1 = .ok (.iload_n 1, 1) := by decide +kernel
theorem d_M_push_2 : decode b_M_push 2 = .ok (.iload_n 2, 1) := by decide +kernel
theorem d_M_push_3 : decode b_M_push 3 = .ok (.i2l, 1) := by decide +kernel
theorem d_M_push_4 : decode b_M_push 4 = .ok (.lconst 0, 1) := by decide +kernel
theorem d_M_push_5 : decode b_M_push 5 = .ok (.lconst 1, 1) := by decide +kernel
theorem d_M_push_6 : decode b_M_push 6 = .ok (.invokestatic 126, 3) := by decide +kernel
theorem d_M_push_9 : decode b_M_push 9 = .ok (.invokevirtual 206, 3) := by decide +kernel
theorem d_M_push_12 : decode b_M_push 12 = .ok (.istore_n 3, 1) := by decide +kernel
theorem d_M_push_13 : decode b_M_push 13 = .ok (.iload_n 3, 1) := by decide +kernel
theorem d_M_push_14 : decode b_M_push 14 = .ok (.ifCond .ge 8, 3) := by decide +kernel
theorem d_M_push_17 : decode b_M_push 17 = .ok (.iload_n 3, 1) := by decide +kernel
theorem d_M_push_18 : decode b_M_push 18 = .ok (.i2l, 1) := by decide +kernel
theorem d_M_push_19 : decode b_M_push 19 = .ok (.goto 13, 3) := by decide +kernel
theorem d_M_push_22 : decode b_M_push 22 = .ok (.aload_n 0, 1) := by decide +kernel
theorem d_M_push_23 : decode b_M_push 23 = .ok (.getfield 81, 3) := by decide +kernel
theorem d_M_push_26 : decode b_M_push 26 = .ok (.iconst 2, 1) := by decide +kernel
theorem d_M_push_27 : decode b_M_push 27 = .ok (.iload_n 1, 1) := by decide +kernel
theorem d_M_push_28 : decode b_M_push 28 = .ok (.imul, 1) := by decide +kernel
theorem d_M_push_29 : decode b_M_push 29 = .ok (.iload_n 2, 1) := by decide +kernel
theorem d_M_push_30 : decode b_M_push 30 = .ok (.iadd, 1) := by decide +kernel
theorem d_M_push_31 : decode b_M_push 31 = .ok (.laload, 1) := by decide +kernel
theorem d_M_push_32 : decode b_M_push 32 = .ok (.lreturn, 1) := by decide +kernel
abbrev b_M_mayTell : ByteArray := prog_7_method_31_code
abbrev y_M_mayTell : MethodName := ⟨"OldBeamsModel", "mayTell", "(IZ)I"⟩
theorem d_M_mayTell_0 : decode b_M_mayTell 0 = .ok (.aload_n 0, 1) := by decide +kernel
theorem d_M_mayTell_1 : decode b_M_mayTell 1 = .ok (.iload_n 1, 1) := by decide +kernel
theorem d_M_mayTell_2 : decode b_M_mayTell 2 = .ok (.invokevirtual 157, 3) := by decide +kernel
theorem d_M_mayTell_5 : decode b_M_mayTell 5 = .ok (.ifCond .ne 6, 3) := by decide +kernel
theorem d_M_mayTell_8 : decode b_M_mayTell 8 = .ok (.ldc 136, 2) := by decide +kernel
theorem d_M_mayTell_10 : decode b_M_mayTell 10 = .ok (.ireturn, 1) := by decide +kernel
theorem d_M_mayTell_11 : decode b_M_mayTell 11 = .ok (.iload_n 2, 1) := by decide +kernel
theorem d_M_mayTell_12 : decode b_M_mayTell 12 = .ok (.ifCond .ne 6, 3) := by decide +kernel
theorem d_M_mayTell_15 : decode b_M_mayTell 15 = .ok (.ldc 143, 2) := by decide +kernel
theorem d_M_mayTell_17 : decode b_M_mayTell 17 = .ok (.ireturn, 1) := by decide +kernel
theorem d_M_mayTell_18 : decode b_M_mayTell 18 = .ok (.aload_n 0, 1) := by decide +kernel
theorem d_M_mayTell_19 : decode b_M_mayTell 19 = .ok (.invokevirtual 161, 3) := by decide +kernel
theorem d_M_mayTell_22 : decode b_M_mayTell 22 = .ok (.aload_n 0, 1) := by decide +kernel
theorem d_M_mayTell_23 : decode b_M_mayTell 23 = .ok (.getfield 74, 3) := by decide +kernel
theorem d_M_mayTell_26 : decode b_M_mayTell 26 = .ok (.iload_n 1, 1) := by decide +kernel
theorem d_M_mayTell_27 : decode b_M_mayTell 27 = .ok (.baload, 1) := by decide +kernel
theorem d_M_mayTell_28 : decode b_M_mayTell 28 = .ok (.ifCond .eq 8, 3) := by decide +kernel
theorem d_M_mayTell_31 : decode b_M_mayTell 31 = .ok (.ldc 160, 2) := by decide +kernel
theorem d_M_mayTell_33 : decode b_M_mayTell 33 = .ok (.goto 4, 3) := by decide +kernel
theorem d_M_mayTell_36 : decode b_M_mayTell 36 = .ok (.iconst 0, 1) := by decide +kernel
theorem d_M_mayTell_37 : decode b_M_mayTell 37 = .ok (.ireturn, 1) := by decide +kernel
abbrev b_M_bending : ByteArray := prog_7_method_33_code
abbrev y_M_bending : MethodName := ⟨"OldBeamsModel", "bending", "(II)J"⟩
theorem d_M_bending_0 : decode b_M_bending 0 = .ok (.aload_n 0, 1) := by decide +kernel
theorem d_M_bending_1 : decode b_M_bending 1 = .ok (.iload_n 1, 1) := by decide +kernel
theorem d_M_bending_2 : decode b_M_bending 2 = .ok (.aload_n 0, 1) := by decide +kernel
theorem d_M_bending_3 : decode b_M_bending 3 = .ok (.iload_n 1, 1) := by decide +kernel
theorem d_M_bending_4 : decode b_M_bending 4 = .ok (.invokevirtual 157, 3) := by decide +kernel
theorem d_M_bending_7 : decode b_M_bending 7 = .ok (.ifCond .eq 23, 3) := by decide +kernel
theorem d_M_bending_10 : decode b_M_bending 10 = .ok (.iload_n 2, 1) := by decide +kernel
theorem d_M_bending_11 : decode b_M_bending 11 = .ok (.i2l, 1) := by decide +kernel
theorem d_M_bending_12 : decode b_M_bending 12 = .ok (.lconst 0, 1) := by decide +kernel
theorem d_M_bending_13 : decode b_M_bending 13 = .ok (.aload_n 0, 1) := by decide +kernel
theorem d_M_bending_14 : decode b_M_bending 14 = .ok (.getfield 19, 3) := by decide +kernel
theorem d_M_bending_17 : decode b_M_bending 17 = .ok (.iload_n 1, 1) := by decide +kernel
theorem d_M_bending_18 : decode b_M_bending 18 = .ok (.iaload, 1) := by decide +kernel
theorem d_M_bending_19 : decode b_M_bending 19 = .ok (.i2l, 1) := by decide +kernel
theorem d_M_bending_20 : decode b_M_bending 20 = .ok (.invokestatic 126, 3) := by decide +kernel
theorem d_M_bending_23 : decode b_M_bending 23 = .ok (.ifCond .eq 7, 3) := by decide +kernel
theorem d_M_bending_26 : decode b_M_bending 26 = .ok (.iconst 1, 1) := by decide +kernel
theorem d_M_bending_27 : decode b_M_bending 27 = .ok (.goto 4, 3) := by decide +kernel
theorem d_M_bending_30 : decode b_M_bending 30 = .ok (.iconst 0, 1) := by decide +kernel
theorem d_M_bending_31 : decode b_M_bending 31 = .ok (.invokevirtual 206, 3) := by decide +kernel
theorem d_M_bending_34 : decode b_M_bending 34 = .ok (.istore_n 3, 1) := by decide +kernel
theorem d_M_bending_35 : decode b_M_bending 35 = .ok (.iload_n 3, 1) := by decide +kernel
theorem d_M_bending_36 : decode b_M_bending 36 = .ok (.ifCond .ge 8, 3) := by decide +kernel
theorem d_M_bending_39 : decode b_M_bending 39 = .ok (.iload_n 3, 1) := by decide +kernel
theorem d_M_bending_40 : decode b_M_bending 40 = .ok (.i2l, 1) := by decide +kernel
theorem d_M_bending_41 : decode b_M_bending 41 = .ok (.goto 9, 3) := by decide +kernel
theorem d_M_bending_44 : decode b_M_bending 44 = .ok (.aload_n 0, 1) := by decide +kernel
theorem d_M_bending_45 : decode b_M_bending 45 = .ok (.iload_n 1, 1) := by decide +kernel
theorem d_M_bending_46 : decode b_M_bending 46 = .ok (.iload_n 2, 1) := by decide +kernel
theorem d_M_bending_47 : decode b_M_bending 47 = .ok (.invokevirtual 189, 3) := by decide +kernel
theorem d_M_bending_50 : decode b_M_bending 50 = .ok (.lreturn, 1) := by decide +kernel
abbrev b_M_greatest : ByteArray := prog_7_method_34_code
abbrev y_M_greatest : MethodName := ⟨"OldBeamsModel", "greatest", "(IZ)J"⟩
theorem d_M_greatest_0 : decode b_M_greatest 0 = .ok (.aload_n 0, 1) := by decide +kernel
theorem d_M_greatest_1 : decode b_M_greatest 1 = .ok (.iload_n 1, 1) := by decide +kernel
theorem d_M_greatest_2 : decode b_M_greatest 2 = .ok (.iconst 1, 1) := by decide +kernel
theorem d_M_greatest_3 : decode b_M_greatest 3 = .ok (.invokevirtual 206, 3) := by decide +kernel
theorem d_M_greatest_6 : decode b_M_greatest 6 = .ok (.istore_n 3, 1) := by decide +kernel
theorem d_M_greatest_7 : decode b_M_greatest 7 = .ok (.iload_n 3, 1) := by decide +kernel
theorem d_M_greatest_8 : decode b_M_greatest 8 = .ok (.ifCond .ge 8, 3) := by decide +kernel
theorem d_M_greatest_11 : decode b_M_greatest 11 = .ok (.iload_n 3, 1) := by decide +kernel
theorem d_M_greatest_12 : decode b_M_greatest 12 = .ok (.i2l, 1) := by decide +kernel
theorem d_M_greatest_13 : decode b_M_greatest 13 = .ok (.goto 23, 3) := by decide +kernel
theorem d_M_greatest_16 : decode b_M_greatest 16 = .ok (.iload_n 2, 1) := by decide +kernel
theorem d_M_greatest_17 : decode b_M_greatest 17 = .ok (.ifCond .eq 13, 3) := by decide +kernel
theorem d_M_greatest_20 : decode b_M_greatest 20 = .ok (.aload_n 0, 1) := by decide +kernel
theorem d_M_greatest_21 : decode b_M_greatest 21 = .ok (.getfield 87, 3) := by decide +kernel
theorem d_M_greatest_24 : decode b_M_greatest 24 = .ok (.iload_n 1, 1) := by decide +kernel
theorem d_M_greatest_25 : decode b_M_greatest 25 = .ok (.iaload, 1) := by decide +kernel
theorem d_M_greatest_26 : decode b_M_greatest 26 = .ok (.i2l, 1) := by decide +kernel
theorem d_M_greatest_27 : decode b_M_greatest 27 = .ok (.goto 9, 3) := by decide +kernel
theorem d_M_greatest_30 : decode b_M_greatest 30 = .ok (.aload_n 0, 1) := by decide +kernel
theorem d_M_greatest_31 : decode b_M_greatest 31 = .ok (.getfield 84, 3) := by decide +kernel
theorem d_M_greatest_34 : decode b_M_greatest 34 = .ok (.iload_n 1, 1) := by decide +kernel
theorem d_M_greatest_35 : decode b_M_greatest 35 = .ok (.laload, 1) := by decide +kernel
theorem d_M_greatest_36 : decode b_M_greatest 36 = .ok (.lreturn, 1) := by decide +kernel
abbrev b_M_lifts : ByteArray := prog_7_method_35_code
abbrev y_M_lifts : MethodName := ⟨"OldBeamsModel", "lifts", "(I)I"⟩
theorem d_M_lifts_0 : decode b_M_lifts 0 = .ok (.aload_n 0, 1) := by decide +kernel
theorem d_M_lifts_1 : decode b_M_lifts 1 = .ok (.iload_n 1, 1) := by decide +kernel
theorem d_M_lifts_2 : decode b_M_lifts 2 = .ok (.iconst 1, 1) := by decide +kernel
theorem d_M_lifts_3 : decode b_M_lifts 3 = .ok (.invokevirtual 206, 3) := by decide +kernel
theorem d_M_lifts_6 : decode b_M_lifts 6 = .ok (.istore_n 2, 1) := by decide +kernel
theorem d_M_lifts_7 : decode b_M_lifts 7 = .ok (.iload_n 2, 1) := by decide +kernel
theorem d_M_lifts_8 : decode b_M_lifts 8 = .ok (.ifCond .ge 7, 3) := by decide +kernel
theorem d_M_lifts_11 : decode b_M_lifts 11 = .ok (.iload_n 2, 1) := by decide +kernel
theorem d_M_lifts_12 : decode b_M_lifts 12 = .ok (.goto 16, 3) := by decide +kernel
theorem d_M_lifts_15 : decode b_M_lifts 15 = .ok (.aload_n 0, 1) := by decide +kernel
theorem d_M_lifts_16 : decode b_M_lifts 16 = .ok (.iload_n 1, 1) := by decide +kernel
theorem d_M_lifts_17 : decode b_M_lifts 17 = .ok (.invokevirtual 199, 3) := by decide +kernel
theorem d_M_lifts_20 : decode b_M_lifts 20 = .ok (.ifCond .eq 7, 3) := by decide +kernel
theorem d_M_lifts_23 : decode b_M_lifts 23 = .ok (.iconst 1, 1) := by decide +kernel
theorem d_M_lifts_24 : decode b_M_lifts 24 = .ok (.goto 4, 3) := by decide +kernel
theorem d_M_lifts_27 : decode b_M_lifts 27 = .ok (.iconst 0, 1) := by decide +kernel
theorem d_M_lifts_28 : decode b_M_lifts 28 = .ok (.ireturn, 1) := by decide +kernel
abbrev b_M_isLifting : ByteArray := prog_7_method_27_code
abbrev y_M_isLifting : MethodName := ⟨"OldBeamsModel", "isLifting", "(I)Z"⟩
theorem d_M_isLifting_0 : decode b_M_isLifting 0 = .ok (.aload_n 0, 1) := by decide +kernel
theorem d_M_isLifting_1 : decode b_M_isLifting 1 = .ok (.getfield 81, 3) := by decide +kernel
theorem d_M_isLifting_4 : decode b_M_isLifting 4 = .ok (.iconst 2, 1) := by decide +kernel
theorem d_M_isLifting_5 : decode b_M_isLifting 5 = .ok (.iload_n 1, 1) := by decide +kernel
theorem d_M_isLifting_6 : decode b_M_isLifting 6 = .ok (.imul, 1) := by decide +kernel
theorem d_M_isLifting_7 : decode b_M_isLifting 7 = .ok (.laload, 1) := by decide +kernel
theorem d_M_isLifting_8 : decode b_M_isLifting 8 = .ok (.lconst 0, 1) := by decide +kernel
theorem d_M_isLifting_9 : decode b_M_isLifting 9 = .ok (.lcmp, 1) := by decide +kernel
theorem d_M_isLifting_10 : decode b_M_isLifting 10 = .ok (.ifCond .lt 18, 3) := by decide +kernel
theorem d_M_isLifting_13 : decode b_M_isLifting 13 = .ok (.aload_n 0, 1) := by decide +kernel
theorem d_M_isLifting_14 : decode b_M_isLifting 14 = .ok (.getfield 81, 3) := by decide +kernel
theorem d_M_isLifting_17 : decode b_M_isLifting 17 = .ok (.iconst 2, 1) := by decide +kernel
theorem d_M_isLifting_18 : decode b_M_isLifting 18 = .ok (.iload_n 1, 1) := by decide +kernel
theorem d_M_isLifting_19 : decode b_M_isLifting 19 = .ok (.imul, 1) := by decide +kernel
theorem d_M_isLifting_20 : decode b_M_isLifting 20 = .ok (.iconst 1, 1) := by decide +kernel
theorem d_M_isLifting_21 : decode b_M_isLifting 21 = .ok (.iadd, 1) := by decide +kernel
theorem d_M_isLifting_22 : decode b_M_isLifting 22 = .ok (.laload, 1) := by decide +kernel
theorem d_M_isLifting_23 : decode b_M_isLifting 23 = .ok (.lconst 0, 1) := by decide +kernel
theorem d_M_isLifting_24 : decode b_M_isLifting 24 = .ok (.lcmp, 1) := by decide +kernel
theorem d_M_isLifting_25 : decode b_M_isLifting 25 = .ok (.ifCond .ge 7, 3) := by decide +kernel
theorem d_M_isLifting_28 : decode b_M_isLifting 28 = .ok (.iconst 1, 1) := by decide +kernel
theorem d_M_isLifting_29 : decode b_M_isLifting 29 = .ok (.goto 4, 3) := by decide +kernel
theorem d_M_isLifting_32 : decode b_M_isLifting 32 = .ok (.iconst 0, 1) := by decide +kernel
theorem d_M_isLifting_33 : decode b_M_isLifting 33 = .ok (.ireturn, 1) := by decide +kernel
abbrev b_M_holds : ByteArray := prog_7_method_36_code
abbrev y_M_holds : MethodName := ⟨"OldBeamsModel", "holds", "(II)I"⟩
theorem d_M_holds_0 : decode b_M_holds 0 = .ok (.aload_n 0, 1) := by decide +kernel
theorem d_M_holds_1 : decode b_M_holds 1 = .ok (.iload_n 1, 1) := by decide +kernel
theorem d_M_holds_2 : decode b_M_holds 2 = .ok (.iload_n 2, 1) := by decide +kernel
theorem d_M_holds_3 : decode b_M_holds 3 = .ok (.i2l, 1) := by decide +kernel
theorem d_M_holds_4 : decode b_M_holds 4 = .ok (.lconst 0, 1) := by decide +kernel
theorem d_M_holds_5 : decode b_M_holds 5 = .ok (.ldc2_w 141, 3) := by decide +kernel
theorem d_M_holds_8 : decode b_M_holds 8 = .ok (.invokestatic 126, 3) := by decide +kernel
theorem d_M_holds_11 : decode b_M_holds 11 = .ok (.invokevirtual 206, 3) := by decide +kernel
theorem d_M_holds_14 : decode b_M_holds 14 = .ok (.istore_n 3, 1) := by decide +kernel
theorem d_M_holds_15 : decode b_M_holds 15 = .ok (.iload_n 3, 1) := by decide +kernel
theorem d_M_holds_16 : decode b_M_holds 16 = .ok (.ifCond .ge 7, 3) := by decide +kernel
theorem d_M_holds_19 : decode b_M_holds 19 = .ok (.iload_n 3, 1) := by decide +kernel
theorem d_M_holds_20 : decode b_M_holds 20 = .ok (.goto 17, 3) := by decide +kernel
theorem d_M_holds_23 : decode b_M_holds 23 = .ok (.aload_n 0, 1) := by decide +kernel
theorem d_M_holds_24 : decode b_M_holds 24 = .ok (.iload_n 1, 1) := by decide +kernel
theorem d_M_holds_25 : decode b_M_holds 25 = .ok (.iload_n 2, 1) := by decide +kernel
theorem d_M_holds_26 : decode b_M_holds 26 = .ok (.invokevirtual 210, 3) := by decide +kernel
theorem d_M_holds_29 : decode b_M_holds 29 = .ok (.ifCond .eq 7, 3) := by decide +kernel
theorem d_M_holds_32 : decode b_M_holds 32 = .ok (.iconst 1, 1) := by decide +kernel
theorem d_M_holds_33 : decode b_M_holds 33 = .ok (.goto 4, 3) := by decide +kernel
theorem d_M_holds_36 : decode b_M_holds 36 = .ok (.iconst 0, 1) := by decide +kernel
theorem d_M_holds_37 : decode b_M_holds 37 = .ok (.ireturn, 1) := by decide +kernel
abbrev b_M_isHolding : ByteArray := prog_7_method_28_code
abbrev y_M_isHolding : MethodName := ⟨"OldBeamsModel", "isHolding", "(II)Z"⟩
theorem d_M_isHolding_0 : decode b_M_isHolding 0 = .ok (.aload_n 0, 1) := by decide +kernel
theorem d_M_isHolding_1 : decode b_M_isHolding 1 = .ok (.iload_n 1, 1) := by decide +kernel
theorem d_M_isHolding_2 : decode b_M_isHolding 2 = .ok (.invokevirtual 199, 3) := by decide +kernel
theorem d_M_isHolding_5 : decode b_M_isHolding 5 = .ok (.ifCond .ne 30, 3) := by decide +kernel
theorem d_M_isHolding_8 : decode b_M_isHolding 8 = .ok (.aload_n 0, 1) := by decide +kernel
theorem d_M_isHolding_9 : decode b_M_isHolding 9 = .ok (.getfield 84, 3) := by decide +kernel
theorem d_M_isHolding_12 : decode b_M_isHolding 12 = .ok (.iload_n 1, 1) := by decide +kernel
theorem d_M_isHolding_13 : decode b_M_isHolding 13 = .ok (.laload, 1) := by decide +kernel
theorem d_M_isHolding_14 : decode b_M_isHolding 14 = .ok (.aload_n 0, 1) := by decide +kernel
theorem d_M_isHolding_15 : decode b_M_isHolding 15 = .ok (.iload_n 1, 1) := by decide +kernel
theorem d_M_isHolding_16 : decode b_M_isHolding 16 = .ok (.invokevirtual 164, 3) := by decide +kernel
theorem d_M_isHolding_19 : decode b_M_isHolding 19 = .ok (.i2l, 1) := by decide +kernel
theorem d_M_isHolding_20 : decode b_M_isHolding 20 = .ok (.iload_n 2, 1) := by decide +kernel
theorem d_M_isHolding_21 : decode b_M_isHolding 21 = .ok (.i2l, 1) := by decide +kernel
theorem d_M_isHolding_22 : decode b_M_isHolding 22 = .ok (.lmul, 1) := by decide +kernel
theorem d_M_isHolding_23 : decode b_M_isHolding 23 = .ok (.ldc2_w 141, 3) := by decide +kernel
theorem d_M_isHolding_26 : decode b_M_isHolding 26 = .ok (.ldiv, 1) := by decide +kernel
theorem d_M_isHolding_27 : decode b_M_isHolding 27 = .ok (.lcmp, 1) := by decide +kernel
theorem d_M_isHolding_28 : decode b_M_isHolding 28 = .ok (.ifCond .gt 7, 3) := by decide +kernel
theorem d_M_isHolding_31 : decode b_M_isHolding 31 = .ok (.iconst 1, 1) := by decide +kernel
theorem d_M_isHolding_32 : decode b_M_isHolding 32 = .ok (.goto 4, 3) := by decide +kernel
theorem d_M_isHolding_35 : decode b_M_isHolding 35 = .ok (.iconst 0, 1) := by decide +kernel
theorem d_M_isHolding_36 : decode b_M_isHolding 36 = .ok (.ireturn, 1) := by decide +kernel
abbrev b_M_needs : ByteArray := prog_7_method_37_code
abbrev y_M_needs : MethodName := ⟨"OldBeamsModel", "needs", "(I)I"⟩
theorem d_M_needs_0 : decode b_M_needs 0 = .ok (.aload_n 0, 1) := by decide +kernel
theorem d_M_needs_1 : decode b_M_needs 1 = .ok (.iload_n 1, 1) := by decide +kernel
theorem d_M_needs_2 : decode b_M_needs 2 = .ok (.iconst 1, 1) := by decide +kernel
theorem d_M_needs_3 : decode b_M_needs 3 = .ok (.invokevirtual 206, 3) := by decide +kernel
theorem d_M_needs_6 : decode b_M_needs 6 = .ok (.istore_n 2, 1) := by decide +kernel
theorem d_M_needs_7 : decode b_M_needs 7 = .ok (.iload_n 2, 1) := by decide +kernel
theorem d_M_needs_8 : decode b_M_needs 8 = .ok (.ifCond .ge 5, 3) := by decide +kernel
theorem d_M_needs_11 : decode b_M_needs 11 = .ok (.iload_n 2, 1) := by decide +kernel
theorem d_M_needs_12 : decode b_M_needs 12 = .ok (.ireturn, 1) := by decide +kernel
theorem d_M_needs_13 : decode b_M_needs 13 = .ok (.iconst 0, 1) := by decide +kernel
theorem d_M_needs_14 : decode b_M_needs 14 = .ok (.istore_n 3, 1) := by decide +kernel
theorem d_M_needs_15 : decode b_M_needs 15 = .ok (.iload_n 3, 1) := by decide +kernel
theorem d_M_needs_16 : decode b_M_needs 16 = .ok (.bipush 11, 2) := by decide +kernel
theorem d_M_needs_18 : decode b_M_needs 18 = .ok (.if_icmp .ge 20, 3) := by decide +kernel
theorem d_M_needs_21 : decode b_M_needs 21 = .ok (.aload_n 0, 1) := by decide +kernel
theorem d_M_needs_22 : decode b_M_needs 22 = .ok (.iload_n 1, 1) := by decide +kernel
theorem d_M_needs_23 : decode b_M_needs 23 = .ok (.iload_n 3, 1) := by decide +kernel
theorem d_M_needs_24 : decode b_M_needs 24 = .ok (.invokevirtual 210, 3) := by decide +kernel
theorem d_M_needs_27 : decode b_M_needs 27 = .ok (.ifCond .eq 5, 3) := by decide +kernel
theorem d_M_needs_30 : decode b_M_needs 30 = .ok (.iload_n 3, 1) := by decide +kernel
theorem d_M_needs_31 : decode b_M_needs 31 = .ok (.ireturn, 1) := by decide +kernel
theorem d_M_needs_32 : decode b_M_needs 32 = .ok (.iinc 3 1, 3) := by decide +kernel
theorem d_M_needs_35 : decode b_M_needs 35 = .ok (.goto (-20), 3) := by decide +kernel
theorem d_M_needs_38 : decode b_M_needs 38 = .ok (.ldc 156, 2) := by decide +kernel
theorem d_M_needs_40 : decode b_M_needs 40 = .ok (.ireturn, 1) := by decide +kernel
abbrev b_M_weight : ByteArray := prog_7_method_39_code
abbrev y_M_weight : MethodName := ⟨"OldBeamsModel", "weight", "(III)I"⟩
theorem d_M_weight_0 : decode b_M_weight 0 = .ok (.aload_n 0, 1) := by decide +kernel
theorem d_M_weight_1 : decode b_M_weight 1 = .ok (.iload_n 1, 1) := by decide +kernel
theorem d_M_weight_2 : decode b_M_weight 2 = .ok (.invokevirtual 157, 3) := by decide +kernel
theorem d_M_weight_5 : decode b_M_weight 5 = .ok (.ifCond .ne 6, 3) := by decide +kernel
theorem d_M_weight_8 : decode b_M_weight 8 = .ok (.ldc 136, 2) := by decide +kernel
theorem d_M_weight_10 : decode b_M_weight 10 = .ok (.ireturn, 1) := by decide +kernel
theorem d_M_weight_11 : decode b_M_weight 11 = .ok (.iload_n 2, 1) := by decide +kernel
theorem d_M_weight_12 : decode b_M_weight 12 = .ok (.i2l, 1) := by decide +kernel
theorem d_M_weight_13 : decode b_M_weight 13 = .ok (.lconst 0, 1) := by decide +kernel
theorem d_M_weight_14 : decode b_M_weight 14 = .ok (.ldc2_w 141, 3) := by decide +kernel
theorem d_M_weight_17 : decode b_M_weight 17 = .ok (.invokestatic 126, 3) := by decide +kernel
theorem d_M_weight_20 : decode b_M_weight 20 = .ok (.ifCond .eq 15, 3) := by decide +kernel
theorem d_M_weight_23 : decode b_M_weight 23 = .ok (.iload_n 3, 1) := by decide +kernel
theorem d_M_weight_24 : decode b_M_weight 24 = .ok (.i2l, 1) := by decide +kernel
theorem d_M_weight_25 : decode b_M_weight 25 = .ok (.lconst 0, 1) := by decide +kernel
theorem d_M_weight_26 : decode b_M_weight 26 = .ok (.ldc2_w 217, 3) := by decide +kernel
theorem d_M_weight_29 : decode b_M_weight 29 = .ok (.invokestatic 126, 3) := by decide +kernel
theorem d_M_weight_32 : decode b_M_weight 32 = .ok (.ifCond .ne 6, 3) := by decide +kernel
theorem d_M_weight_35 : decode b_M_weight 35 = .ok (.ldc 143, 2) := by decide +kernel
theorem d_M_weight_37 : decode b_M_weight 37 = .ok (.ireturn, 1) := by decide +kernel
theorem d_M_weight_38 : decode b_M_weight 38 = .ok (.iconst 0, 1) := by decide +kernel
theorem d_M_weight_39 : decode b_M_weight 39 = .ok (.istore 4, 2) := by decide +kernel
theorem d_M_weight_41 : decode b_M_weight 41 = .ok (.iconst 0, 1) := by decide +kernel
theorem d_M_weight_42 : decode b_M_weight 42 = .ok (.istore 5, 2) := by decide +kernel
theorem d_M_weight_44 : decode b_M_weight 44 = .ok (.iload 5, 2) := by decide +kernel
theorem d_M_weight_46 : decode b_M_weight 46 = .ok (.bipush 11, 2) := by decide +kernel
theorem d_M_weight_48 : decode b_M_weight 48 = .ok (.if_icmp .ge 36, 3) := by decide +kernel
theorem d_M_weight_51 : decode b_M_weight 51 = .ok (.iload 4, 2) := by decide +kernel
theorem d_M_weight_53 : decode b_M_weight 53 = .ok (.iload 5, 2) := by decide +kernel
theorem d_M_weight_55 : decode b_M_weight 55 = .ok (.iload_n 2, 1) := by decide +kernel
theorem d_M_weight_56 : decode b_M_weight 56 = .ok (.if_icmp .ne 7, 3) := by decide +kernel
theorem d_M_weight_59 : decode b_M_weight 59 = .ok (.iconst 0, 1) := by decide +kernel
theorem d_M_weight_60 : decode b_M_weight 60 = .ok (.goto 15, 3) := by decide +kernel
theorem d_M_weight_63 : decode b_M_weight 63 = .ok (.aload_n 0, 1) := by decide +kernel
theorem d_M_weight_64 : decode b_M_weight 64 = .ok (.getfield 90, 3) := by decide +kernel
theorem d_M_weight_67 : decode b_M_weight 67 = .ok (.bipush 11, 2) := by decide +kernel
theorem d_M_weight_69 : decode b_M_weight 69 = .ok (.iload_n 1, 1) := by decide +kernel
theorem d_M_weight_70 : decode b_M_weight 70 = .ok (.imul, 1) := by decide +kernel
theorem d_M_weight_71 : decode b_M_weight 71 = .ok (.iload 5, 2) := by decide +kernel
theorem d_M_weight_73 : decode b_M_weight 73 = .ok (.iadd, 1) := by decide +kernel
theorem d_M_weight_74 : decode b_M_weight 74 = .ok (.iaload, 1) := by decide +kernel
theorem d_M_weight_75 : decode b_M_weight 75 = .ok (.iadd, 1) := by decide +kernel
theorem d_M_weight_76 : decode b_M_weight 76 = .ok (.istore 4, 2) := by decide +kernel
theorem d_M_weight_78 : decode b_M_weight 78 = .ok (.iinc 5 1, 3) := by decide +kernel
theorem d_M_weight_81 : decode b_M_weight 81 = .ok (.goto (-37), 3) := by decide +kernel
theorem d_M_weight_84 : decode b_M_weight 84 = .ok (.aload_n 0, 1) := by decide +kernel
theorem d_M_weight_85 : decode b_M_weight 85 = .ok (.iload_n 1, 1) := by decide +kernel
theorem d_M_weight_86 : decode b_M_weight 86 = .ok (.invokevirtual 219, 3) := by decide +kernel
theorem d_M_weight_89 : decode b_M_weight 89 = .ok (.ifCond .gt 10, 3) := by decide +kernel
theorem d_M_weight_92 : decode b_M_weight 92 = .ok (.iload 4, 2) := by decide +kernel
theorem d_M_weight_94 : decode b_M_weight 94 = .ok (.iload_n 3, 1) := by decide +kernel
theorem d_M_weight_95 : decode b_M_weight 95 = .ok (.iadd, 1) := by decide +kernel
theorem d_M_weight_96 : decode b_M_weight 96 = .ok (.ifCond .ne 6, 3) := by decide +kernel
theorem d_M_weight_99 : decode b_M_weight 99 = .ok (.ldc 160, 2) := by decide +kernel
theorem d_M_weight_101 : decode b_M_weight 101 = .ok (.ireturn, 1) := by decide +kernel
theorem d_M_weight_102 : decode b_M_weight 102 = .ok (.aload_n 0, 1) := by decide +kernel
theorem d_M_weight_103 : decode b_M_weight 103 = .ok (.getfield 90, 3) := by decide +kernel
theorem d_M_weight_106 : decode b_M_weight 106 = .ok (.bipush 11, 2) := by decide +kernel
theorem d_M_weight_108 : decode b_M_weight 108 = .ok (.iload_n 1, 1) := by decide +kernel
theorem d_M_weight_109 : decode b_M_weight 109 = .ok (.imul, 1) := by decide +kernel
theorem d_M_weight_110 : decode b_M_weight 110 = .ok (.iload_n 2, 1) := by decide +kernel
theorem d_M_weight_111 : decode b_M_weight 111 = .ok (.iadd, 1) := by decide +kernel
theorem d_M_weight_112 : decode b_M_weight 112 = .ok (.iaload, 1) := by decide +kernel
theorem d_M_weight_113 : decode b_M_weight 113 = .ok (.istore 5, 2) := by decide +kernel
theorem d_M_weight_115 : decode b_M_weight 115 = .ok (.aload_n 0, 1) := by decide +kernel
theorem d_M_weight_116 : decode b_M_weight 116 = .ok (.getfield 90, 3) := by decide +kernel
theorem d_M_weight_119 : decode b_M_weight 119 = .ok (.bipush 11, 2) := by decide +kernel
theorem d_M_weight_121 : decode b_M_weight 121 = .ok (.iload_n 1, 1) := by decide +kernel
theorem d_M_weight_122 : decode b_M_weight 122 = .ok (.imul, 1) := by decide +kernel
theorem d_M_weight_123 : decode b_M_weight 123 = .ok (.iload_n 2, 1) := by decide +kernel
theorem d_M_weight_124 : decode b_M_weight 124 = .ok (.iadd, 1) := by decide +kernel
theorem d_M_weight_125 : decode b_M_weight 125 = .ok (.iload_n 3, 1) := by decide +kernel
theorem d_M_weight_126 : decode b_M_weight 126 = .ok (.iastore, 1) := by decide +kernel
theorem d_M_weight_127 : decode b_M_weight 127 = .ok (.iload 5, 2) := by decide +kernel
theorem d_M_weight_129 : decode b_M_weight 129 = .ok (.ireturn, 1) := by decide +kernel
abbrev b_M_looksAt : ByteArray := prog_7_method_38_code
abbrev y_M_looksAt : MethodName := ⟨"OldBeamsModel", "looksAt", "(I)I"⟩
theorem d_M_looksAt_0 : decode b_M_looksAt 0 = .ok (.iconst 0, 1) := by decide +kernel
theorem d_M_looksAt_1 : decode b_M_looksAt 1 = .ok (.istore_n 2, 1) := by decide +kernel
theorem d_M_looksAt_2 : decode b_M_looksAt 2 = .ok (.iconst 0, 1) := by decide +kernel
theorem d_M_looksAt_3 : decode b_M_looksAt 3 = .ok (.istore_n 3, 1) := by decide +kernel
theorem d_M_looksAt_4 : decode b_M_looksAt 4 = .ok (.iload_n 3, 1) := by decide +kernel
theorem d_M_looksAt_5 : decode b_M_looksAt 5 = .ok (.aload_n 0, 1) := by decide +kernel
theorem d_M_looksAt_6 : decode b_M_looksAt 6 = .ok (.getfield 214, 3) := by decide +kernel
theorem d_M_looksAt_9 : decode b_M_looksAt 9 = .ok (.if_icmp .ge 27, 3) := by decide +kernel
theorem d_M_looksAt_12 : decode b_M_looksAt 12 = .ok (.iload_n 2, 1) := by decide +kernel
theorem d_M_looksAt_13 : decode b_M_looksAt 13 = .ok (.aload_n 0, 1) := by decide +kernel
theorem d_M_looksAt_14 : decode b_M_looksAt 14 = .ok (.getfield 96, 3) := by decide +kernel
theorem d_M_looksAt_17 : decode b_M_looksAt 17 = .ok (.iload_n 3, 1) := by decide +kernel
theorem d_M_looksAt_18 : decode b_M_looksAt 18 = .ok (.iaload, 1) := by decide +kernel
theorem d_M_looksAt_19 : decode b_M_looksAt 19 = .ok (.iload_n 1, 1) := by decide +kernel
theorem d_M_looksAt_20 : decode b_M_looksAt 20 = .ok (.if_icmp .ne 7, 3) := by decide +kernel
theorem d_M_looksAt_23 : decode b_M_looksAt 23 = .ok (.iconst 1, 1) := by decide +kernel
theorem d_M_looksAt_24 : decode b_M_looksAt 24 = .ok (.goto 4, 3) := by decide +kernel
theorem d_M_looksAt_27 : decode b_M_looksAt 27 = .ok (.iconst 0, 1) := by decide +kernel
theorem d_M_looksAt_28 : decode b_M_looksAt 28 = .ok (.iadd, 1) := by decide +kernel
theorem d_M_looksAt_29 : decode b_M_looksAt 29 = .ok (.istore_n 2, 1) := by decide +kernel
theorem d_M_looksAt_30 : decode b_M_looksAt 30 = .ok (.iinc 3 1, 3) := by decide +kernel
theorem d_M_looksAt_33 : decode b_M_looksAt 33 = .ok (.goto (-29), 3) := by decide +kernel
theorem d_M_looksAt_36 : decode b_M_looksAt 36 = .ok (.iload_n 2, 1) := by decide +kernel
theorem d_M_looksAt_37 : decode b_M_looksAt 37 = .ok (.ireturn, 1) := by decide +kernel
abbrev b_M_tool : ByteArray := prog_7_method_40_code
abbrev y_M_tool : MethodName := ⟨"OldBeamsModel", "tool", "(III)I"⟩
theorem d_M_tool_0 : decode b_M_tool 0 = .ok (.iload_n 1, 1) := by decide +kernel
theorem d_M_tool_1 : decode b_M_tool 1 = .ok (.i2l, 1) := by decide +kernel
theorem d_M_tool_2 : decode b_M_tool 2 = .ok (.lconst 0, 1) := by decide +kernel
theorem d_M_tool_3 : decode b_M_tool 3 = .ok (.ldc2_w 134, 3) := by decide +kernel
theorem d_M_tool_6 : decode b_M_tool 6 = .ok (.invokestatic 126, 3) := by decide +kernel
theorem d_M_tool_9 : decode b_M_tool 9 = .ok (.ifCond .ne 6, 3) := by decide +kernel
theorem d_M_tool_12 : decode b_M_tool 12 = .ok (.ldc 136, 2) := by decide +kernel
theorem d_M_tool_14 : decode b_M_tool 14 = .ok (.ireturn, 1) := by decide +kernel
theorem d_M_tool_15 : decode b_M_tool 15 = .ok (.iload_n 2, 1) := by decide +kernel
theorem d_M_tool_16 : decode b_M_tool 16 = .ok (.i2l, 1) := by decide +kernel
theorem d_M_tool_17 : decode b_M_tool 17 = .ok (.lconst 0, 1) := by decide +kernel
theorem d_M_tool_18 : decode b_M_tool 18 = .ok (.ldc2_w 141, 3) := by decide +kernel
theorem d_M_tool_21 : decode b_M_tool 21 = .ok (.invokestatic 126, 3) := by decide +kernel
theorem d_M_tool_24 : decode b_M_tool 24 = .ok (.ifCond .eq 15, 3) := by decide +kernel
theorem d_M_tool_27 : decode b_M_tool 27 = .ok (.iload_n 3, 1) := by decide +kernel
theorem d_M_tool_28 : decode b_M_tool 28 = .ok (.i2l, 1) := by decide +kernel
theorem d_M_tool_29 : decode b_M_tool 29 = .ok (.lconst 0, 1) := by decide +kernel
theorem d_M_tool_30 : decode b_M_tool 30 = .ok (.ldc2_w 222, 3) := by decide +kernel
theorem d_M_tool_33 : decode b_M_tool 33 = .ok (.invokestatic 126, 3) := by decide +kernel
theorem d_M_tool_36 : decode b_M_tool 36 = .ok (.ifCond .ne 6, 3) := by decide +kernel
theorem d_M_tool_39 : decode b_M_tool 39 = .ok (.ldc 143, 2) := by decide +kernel
theorem d_M_tool_41 : decode b_M_tool 41 = .ok (.ireturn, 1) := by decide +kernel
theorem d_M_tool_42 : decode b_M_tool 42 = .ok (.iconst 0, 1) := by decide +kernel
theorem d_M_tool_43 : decode b_M_tool 43 = .ok (.istore 4, 2) := by decide +kernel
theorem d_M_tool_45 : decode b_M_tool 45 = .ok (.iload 4, 2) := by decide +kernel
theorem d_M_tool_47 : decode b_M_tool 47 = .ok (.aload_n 0, 1) := by decide +kernel
theorem d_M_tool_48 : decode b_M_tool 48 = .ok (.getfield 214, 3) := by decide +kernel
theorem d_M_tool_51 : decode b_M_tool 51 = .ok (.if_icmp .ge 23, 3) := by decide +kernel
theorem d_M_tool_54 : decode b_M_tool 54 = .ok (.aload_n 0, 1) := by decide +kernel
theorem d_M_tool_55 : decode b_M_tool 55 = .ok (.getfield 99, 3) := by decide +kernel
theorem d_M_tool_58 : decode b_M_tool 58 = .ok (.iload 4, 2) := by decide +kernel
theorem d_M_tool_60 : decode b_M_tool 60 = .ok (.iaload, 1) := by decide +kernel
theorem d_M_tool_61 : decode b_M_tool 61 = .ok (.iload_n 1, 1) := by decide +kernel
theorem d_M_tool_62 : decode b_M_tool 62 = .ok (.if_icmp .ne 6, 3) := by decide +kernel
theorem d_M_tool_65 : decode b_M_tool 65 = .ok (.ldc 160, 2) := by decide +kernel
theorem d_M_tool_67 : decode b_M_tool 67 = .ok (.ireturn, 1) := by decide +kernel
theorem d_M_tool_68 : decode b_M_tool 68 = .ok (.iinc 4 1, 3) := by decide +kernel
theorem d_M_tool_71 : decode b_M_tool 71 = .ok (.goto (-26), 3) := by decide +kernel
theorem d_M_tool_74 : decode b_M_tool 74 = .ok (.aload_n 0, 1) := by decide +kernel
theorem d_M_tool_75 : decode b_M_tool 75 = .ok (.getfield 93, 3) := by decide +kernel
theorem d_M_tool_78 : decode b_M_tool 78 = .ok (.bipush 11, 2) := by decide +kernel
theorem d_M_tool_80 : decode b_M_tool 80 = .ok (.iload_n 1, 1) := by decide +kernel
theorem d_M_tool_81 : decode b_M_tool 81 = .ok (.imul, 1) := by decide +kernel
theorem d_M_tool_82 : decode b_M_tool 82 = .ok (.iload_n 2, 1) := by decide +kernel
theorem d_M_tool_83 : decode b_M_tool 83 = .ok (.iadd, 1) := by decide +kernel
theorem d_M_tool_84 : decode b_M_tool 84 = .ok (.iaload, 1) := by decide +kernel
theorem d_M_tool_85 : decode b_M_tool 85 = .ok (.istore 4, 2) := by decide +kernel
theorem d_M_tool_87 : decode b_M_tool 87 = .ok (.aload_n 0, 1) := by decide +kernel
theorem d_M_tool_88 : decode b_M_tool 88 = .ok (.getfield 93, 3) := by decide +kernel
theorem d_M_tool_91 : decode b_M_tool 91 = .ok (.bipush 11, 2) := by decide +kernel
theorem d_M_tool_93 : decode b_M_tool 93 = .ok (.iload_n 1, 1) := by decide +kernel
theorem d_M_tool_94 : decode b_M_tool 94 = .ok (.imul, 1) := by decide +kernel
theorem d_M_tool_95 : decode b_M_tool 95 = .ok (.iload_n 2, 1) := by decide +kernel
theorem d_M_tool_96 : decode b_M_tool 96 = .ok (.iadd, 1) := by decide +kernel
theorem d_M_tool_97 : decode b_M_tool 97 = .ok (.iload_n 3, 1) := by decide +kernel
theorem d_M_tool_98 : decode b_M_tool 98 = .ok (.iastore, 1) := by decide +kernel
theorem d_M_tool_99 : decode b_M_tool 99 = .ok (.iload 4, 2) := by decide +kernel
theorem d_M_tool_101 : decode b_M_tool 101 = .ok (.ireturn, 1) := by decide +kernel
abbrev b_M_look : ByteArray := prog_7_method_41_code
abbrev y_M_look : MethodName := ⟨"OldBeamsModel", "look", "(IIII)I"⟩
theorem d_M_look_0 : decode b_M_look 0 = .ok (.aload_n 0, 1) := by decide +kernel
theorem d_M_look_1 : decode b_M_look 1 = .ok (.iload_n 1, 1) := by decide +kernel
theorem d_M_look_2 : decode b_M_look 2 = .ok (.invokevirtual 157, 3) := by decide +kernel
theorem d_M_look_5 : decode b_M_look 5 = .ok (.ifCond .eq 15, 3) := by decide +kernel
theorem d_M_look_8 : decode b_M_look 8 = .ok (.iload_n 2, 1) := by decide +kernel
theorem d_M_look_9 : decode b_M_look 9 = .ok (.i2l, 1) := by decide +kernel
theorem d_M_look_10 : decode b_M_look 10 = .ok (.lconst 0, 1) := by decide +kernel
theorem d_M_look_11 : decode b_M_look 11 = .ok (.ldc2_w 134, 3) := by decide +kernel
theorem d_M_look_14 : decode b_M_look 14 = .ok (.invokestatic 126, 3) := by decide +kernel
theorem d_M_look_17 : decode b_M_look 17 = .ok (.ifCond .ne 6, 3) := by decide +kernel
theorem d_M_look_20 : decode b_M_look 20 = .ok (.ldc 136, 2) := by decide +kernel
theorem d_M_look_22 : decode b_M_look 22 = .ok (.ireturn, 1) := by decide +kernel
theorem d_M_look_23 : decode b_M_look 23 = .ok (.iload_n 3, 1) := by decide +kernel
theorem d_M_look_24 : decode b_M_look 24 = .ok (.i2l, 1) := by decide +kernel
theorem d_M_look_25 : decode b_M_look 25 = .ok (.lconst 0, 1) := by decide +kernel
theorem d_M_look_26 : decode b_M_look 26 = .ok (.lconst 1, 1) := by decide +kernel
theorem d_M_look_27 : decode b_M_look 27 = .ok (.invokestatic 126, 3) := by decide +kernel
theorem d_M_look_30 : decode b_M_look 30 = .ok (.ifCond .eq 11, 3) := by decide +kernel
theorem d_M_look_33 : decode b_M_look 33 = .ok (.iload 4, 2) := by decide +kernel
theorem d_M_look_35 : decode b_M_look 35 = .ok (.invokestatic 151, 3) := by decide +kernel
theorem d_M_look_38 : decode b_M_look 38 = .ok (.ifCond .ne 6, 3) := by decide +kernel
theorem d_M_look_41 : decode b_M_look 41 = .ok (.ldc 143, 2) := by decide +kernel
theorem d_M_look_43 : decode b_M_look 43 = .ok (.ireturn, 1) := by decide +kernel
theorem d_M_look_44 : decode b_M_look 44 = .ok (.aload_n 0, 1) := by decide +kernel
theorem d_M_look_45 : decode b_M_look 45 = .ok (.getfield 214, 3) := by decide +kernel
theorem d_M_look_48 : decode b_M_look 48 = .ok (.ifCond .le 22, 3) := by decide +kernel
theorem d_M_look_51 : decode b_M_look 51 = .ok (.iload 4, 2) := by decide +kernel
theorem d_M_look_53 : decode b_M_look 53 = .ok (.aload_n 0, 1) := by decide +kernel
theorem d_M_look_54 : decode b_M_look 54 = .ok (.getfield 105, 3) := by decide +kernel
theorem d_M_look_57 : decode b_M_look 57 = .ok (.aload_n 0, 1) := by decide +kernel
theorem d_M_look_58 : decode b_M_look 58 = .ok (.getfield 214, 3) := by decide +kernel
theorem d_M_look_61 : decode b_M_look 61 = .ok (.iconst 1, 1) := by decide +kernel
theorem d_M_look_62 : decode b_M_look 62 = .ok (.isub, 1) := by decide +kernel
theorem d_M_look_63 : decode b_M_look 63 = .ok (.iaload, 1) := by decide +kernel
theorem d_M_look_64 : decode b_M_look 64 = .ok (.if_icmp .ge 6, 3) := by decide +kernel
theorem d_M_look_67 : decode b_M_look 67 = .ok (.ldc 160, 2) := by decide +kernel
theorem d_M_look_69 : decode b_M_look 69 = .ok (.ireturn, 1) := by decide +kernel
theorem d_M_look_70 : decode b_M_look 70 = .ok (.aload_n 0, 1) := by decide +kernel
theorem d_M_look_71 : decode b_M_look 71 = .ok (.getfield 214, 3) := by decide +kernel
theorem d_M_look_74 : decode b_M_look 74 = .ok (.bipush 60, 2) := by decide +kernel
theorem d_M_look_76 : decode b_M_look 76 = .ok (.if_icmp .eq 13, 3) := by decide +kernel
theorem d_M_look_79 : decode b_M_look 79 = .ok (.aload_n 0, 1) := by decide +kernel
theorem d_M_look_80 : decode b_M_look 80 = .ok (.iload_n 1, 1) := by decide +kernel
theorem d_M_look_81 : decode b_M_look 81 = .ok (.invokevirtual 219, 3) := by decide +kernel
theorem d_M_look_84 : decode b_M_look 84 = .ok (.bipush 8, 2) := by decide +kernel
theorem d_M_look_86 : decode b_M_look 86 = .ok (.if_icmp .ne 6, 3) := by decide +kernel
theorem d_M_look_89 : decode b_M_look 89 = .ok (.ldc 155, 2) := by decide +kernel
theorem d_M_look_91 : decode b_M_look 91 = .ok (.ireturn, 1) := by decide +kernel
theorem d_M_look_92 : decode b_M_look 92 = .ok (.aload_n 0, 1) := by decide +kernel
theorem d_M_look_93 : decode b_M_look 93 = .ok (.getfield 96, 3) := by decide +kernel
theorem d_M_look_96 : decode b_M_look 96 = .ok (.aload_n 0, 1) := by decide +kernel
theorem d_M_look_97 : decode b_M_look 97 = .ok (.getfield 214, 3) := by decide +kernel
theorem d_M_look_100 : decode b_M_look 100 = .ok (.iload_n 1, 1) := by decide +kernel
theorem d_M_look_101 : decode b_M_look 101 = .ok (.iastore, 1) := by decide +kernel
theorem d_M_look_102 : decode b_M_look 102 = .ok (.aload_n 0, 1) := by decide +kernel
theorem d_M_look_103 : decode b_M_look 103 = .ok (.getfield 99, 3) := by decide +kernel
theorem d_M_look_106 : decode b_M_look 106 = .ok (.aload_n 0, 1) := by decide +kernel
theorem d_M_look_107 : decode b_M_look 107 = .ok (.getfield 214, 3) := by decide +kernel
theorem d_M_look_110 : decode b_M_look 110 = .ok (.iload_n 2, 1) := by decide +kernel
theorem d_M_look_111 : decode b_M_look 111 = .ok (.iastore, 1) := by decide +kernel
theorem d_M_look_112 : decode b_M_look 112 = .ok (.aload_n 0, 1) := by decide +kernel
theorem d_M_look_113 : decode b_M_look 113 = .ok (.getfield 102, 3) := by decide +kernel
theorem d_M_look_116 : decode b_M_look 116 = .ok (.aload_n 0, 1) := by decide +kernel
theorem d_M_look_117 : decode b_M_look 117 = .ok (.getfield 214, 3) := by decide +kernel
theorem d_M_look_120 : decode b_M_look 120 = .ok (.iload_n 3, 1) := by decide +kernel
theorem d_M_look_121 : decode b_M_look 121 = .ok (.iastore, 1) := by decide +kernel
theorem d_M_look_122 : decode b_M_look 122 = .ok (.aload_n 0, 1) := by decide +kernel
theorem d_M_look_123 : decode b_M_look 123 = .ok (.getfield 105, 3) := by decide +kernel
theorem d_M_look_126 : decode b_M_look 126 = .ok (.aload_n 0, 1) := by decide +kernel
theorem d_M_look_127 : decode b_M_look 127 = .ok (.getfield 214, 3) := by decide +kernel
theorem d_M_look_130 : decode b_M_look 130 = .ok (.iload 4, 2) := by decide +kernel
theorem d_M_look_132 : decode b_M_look 132 = .ok (.iastore, 1) := by decide +kernel
theorem d_M_look_133 : decode b_M_look 133 = .ok (.aload_n 0, 1) := by decide +kernel
theorem d_M_look_134 : decode b_M_look 134 = .ok (.dup, 1) := by decide +kernel
theorem d_M_look_135 : decode b_M_look 135 = .ok (.getfield 214, 3) := by decide +kernel
theorem d_M_look_138 : decode b_M_look 138 = .ok (.iconst 1, 1) := by decide +kernel
theorem d_M_look_139 : decode b_M_look 139 = .ok (.iadd, 1) := by decide +kernel
theorem d_M_look_140 : decode b_M_look 140 = .ok (.putfield 214, 3) := by decide +kernel
theorem d_M_look_143 : decode b_M_look 143 = .ok (.aload_n 0, 1) := by decide +kernel
theorem d_M_look_144 : decode b_M_look 144 = .ok (.getfield 214, 3) := by decide +kernel
theorem d_M_look_147 : decode b_M_look 147 = .ok (.iconst 1, 1) := by decide +kernel
theorem d_M_look_148 : decode b_M_look 148 = .ok (.isub, 1) := by decide +kernel
theorem d_M_look_149 : decode b_M_look 149 = .ok (.ireturn, 1) := by decide +kernel
abbrev b_M_odds : ByteArray := prog_7_method_45_code
abbrev y_M_odds : MethodName := ⟨"OldBeamsModel", "odds", "(III)J"⟩
theorem d_M_odds_0 : decode b_M_odds 0 = .ok (.aload_n 0, 1) := by decide +kernel
theorem d_M_odds_1 : decode b_M_odds 1 = .ok (.iload_n 1, 1) := by decide +kernel
theorem d_M_odds_2 : decode b_M_odds 2 = .ok (.invokevirtual 157, 3) := by decide +kernel
theorem d_M_odds_5 : decode b_M_odds 5 = .ok (.ifCond .ne 7, 3) := by decide +kernel
theorem d_M_odds_8 : decode b_M_odds 8 = .ok (.ldc2_w 234, 3) := by decide +kernel
theorem d_M_odds_11 : decode b_M_odds 11 = .ok (.lreturn, 1) := by decide +kernel
theorem d_M_odds_12 : decode b_M_odds 12 = .ok (.iload_n 2, 1) := by decide +kernel
theorem d_M_odds_13 : decode b_M_odds 13 = .ok (.i2l, 1) := by decide +kernel
theorem d_M_odds_14 : decode b_M_odds 14 = .ok (.lconst 0, 1) := by decide +kernel
theorem d_M_odds_15 : decode b_M_odds 15 = .ok (.ldc2_w 141, 3) := by decide +kernel
theorem d_M_odds_18 : decode b_M_odds 18 = .ok (.invokestatic 126, 3) := by decide +kernel
theorem d_M_odds_21 : decode b_M_odds 21 = .ok (.ifCond .eq 10, 3) := by decide +kernel
theorem d_M_odds_24 : decode b_M_odds 24 = .ok (.iload_n 3, 1) := by decide +kernel
theorem d_M_odds_25 : decode b_M_odds 25 = .ok (.invokestatic 151, 3) := by decide +kernel
theorem d_M_odds_28 : decode b_M_odds 28 = .ok (.ifCond .ne 7, 3) := by decide +kernel
theorem d_M_odds_31 : decode b_M_odds 31 = .ok (.ldc2_w 236, 3) := by decide +kernel
theorem d_M_odds_34 : decode b_M_odds 34 = .ok (.lreturn, 1) := by decide +kernel
theorem d_M_odds_35 : decode b_M_odds 35 = .ok (.aload_n 0, 1) := by decide +kernel
theorem d_M_odds_36 : decode b_M_odds 36 = .ok (.iload_n 1, 1) := by decide +kernel
theorem d_M_odds_37 : decode b_M_odds 37 = .ok (.iload_n 3, 1) := by decide +kernel
theorem d_M_odds_38 : decode b_M_odds 38 = .ok (.invokevirtual 238, 3) := by decide +kernel
theorem d_M_odds_41 : decode b_M_odds 41 = .ok (.aload_n 0, 1) := by decide +kernel
theorem d_M_odds_42 : decode b_M_odds 42 = .ok (.getfield 108, 3) := by decide +kernel
theorem d_M_odds_45 : decode b_M_odds 45 = .ok (.iload_n 2, 1) := by decide +kernel
theorem d_M_odds_46 : decode b_M_odds 46 = .ok (.laload, 1) := by decide +kernel
theorem d_M_odds_47 : decode b_M_odds 47 = .ok (.lreturn, 1) := by decide +kernel
abbrev b_M_layOdds : ByteArray := prog_7_method_43_code
abbrev y_M_layOdds : MethodName := ⟨"OldBeamsModel", "layOdds", "(II)V"⟩
theorem d_M_layOdds_0 : decode b_M_layOdds 0 = .ok (.aload_n 0, 1) := by decide +kernel
theorem d_M_layOdds_1 : decode b_M_layOdds 1 = .ok (.ldc 156, 2) := by decide +kernel
theorem d_M_layOdds_3 : decode b_M_layOdds 3 = .ok (.putfield 224, 3) := by decide +kernel
theorem d_M_layOdds_6 : decode b_M_layOdds 6 = .ok (.iconst 0, 1) := by decide +kernel
theorem d_M_layOdds_7 : decode b_M_layOdds 7 = .ok (.istore_n 3, 1) := by decide +kernel
theorem d_M_layOdds_8 : decode b_M_layOdds 8 = .ok (.iload_n 3, 1) := by decide +kernel
theorem d_M_layOdds_9 : decode b_M_layOdds 9 = .ok (.bipush 11, 2) := by decide +kernel
theorem d_M_layOdds_11 : decode b_M_layOdds 11 = .ok (.if_icmp .ge 27, 3) := by decide +kernel
theorem d_M_layOdds_14 : decode b_M_layOdds 14 = .ok (.aload_n 0, 1) := by decide +kernel
theorem d_M_layOdds_15 : decode b_M_layOdds 15 = .ok (.getfield 108, 3) := by decide +kernel
theorem d_M_layOdds_18 : decode b_M_layOdds 18 = .ok (.iload_n 3, 1) := by decide +kernel
theorem d_M_layOdds_19 : decode b_M_layOdds 19 = .ok (.aload_n 0, 1) := by decide +kernel
theorem d_M_layOdds_20 : decode b_M_layOdds 20 = .ok (.getfield 90, 3) := by decide +kernel
theorem d_M_layOdds_23 : decode b_M_layOdds 23 = .ok (.bipush 11, 2) := by decide +kernel
theorem d_M_layOdds_25 : decode b_M_layOdds 25 = .ok (.iload_n 1, 1) := by decide +kernel
theorem d_M_layOdds_26 : decode b_M_layOdds 26 = .ok (.imul, 1) := by decide +kernel
theorem d_M_layOdds_27 : decode b_M_layOdds 27 = .ok (.iload_n 3, 1) := by decide +kernel
theorem d_M_layOdds_28 : decode b_M_layOdds 28 = .ok (.iadd, 1) := by decide +kernel
theorem d_M_layOdds_29 : decode b_M_layOdds 29 = .ok (.iaload, 1) := by decide +kernel
theorem d_M_layOdds_30 : decode b_M_layOdds 30 = .ok (.i2l, 1) := by decide +kernel
theorem d_M_layOdds_31 : decode b_M_layOdds 31 = .ok (.lastore, 1) := by decide +kernel
theorem d_M_layOdds_32 : decode b_M_layOdds 32 = .ok (.iinc 3 1, 3) := by decide +kernel
theorem d_M_layOdds_35 : decode b_M_layOdds 35 = .ok (.goto (-27), 3) := by decide +kernel
theorem d_M_layOdds_38 : decode b_M_layOdds 38 = .ok (.iconst 0, 1) := by decide +kernel
theorem d_M_layOdds_39 : decode b_M_layOdds 39 = .ok (.istore_n 3, 1) := by decide +kernel
theorem d_M_layOdds_40 : decode b_M_layOdds 40 = .ok (.iload_n 3, 1) := by decide +kernel
theorem d_M_layOdds_41 : decode b_M_layOdds 41 = .ok (.aload_n 0, 1) := by decide +kernel
theorem d_M_layOdds_42 : decode b_M_layOdds 42 = .ok (.getfield 214, 3) := by decide +kernel
theorem d_M_layOdds_45 : decode b_M_layOdds 45 = .ok (.if_icmp .ge 34, 3) := by decide +kernel
theorem d_M_layOdds_48 : decode b_M_layOdds 48 = .ok (.aload_n 0, 1) := by decide +kernel
theorem d_M_layOdds_49 : decode b_M_layOdds 49 = .ok (.getfield 96, 3) := by decide +kernel
theorem d_M_layOdds_52 : decode b_M_layOdds 52 = .ok (.iload_n 3, 1) := by decide +kernel
theorem d_M_layOdds_53 : decode b_M_layOdds 53 = .ok (.iaload, 1) := by decide +kernel
theorem d_M_layOdds_54 : decode b_M_layOdds 54 = .ok (.iload_n 1, 1) := by decide +kernel
theorem d_M_layOdds_55 : decode b_M_layOdds 55 = .ok (.if_icmp .ne 18, 3) := by decide +kernel
theorem d_M_layOdds_58 : decode b_M_layOdds 58 = .ok (.aload_n 0, 1) := by decide +kernel
theorem d_M_layOdds_59 : decode b_M_layOdds 59 = .ok (.getfield 105, 3) := by decide +kernel
theorem d_M_layOdds_62 : decode b_M_layOdds 62 = .ok (.iload_n 3, 1) := by decide +kernel
theorem d_M_layOdds_63 : decode b_M_layOdds 63 = .ok (.iaload, 1) := by decide +kernel
theorem d_M_layOdds_64 : decode b_M_layOdds 64 = .ok (.iload_n 2, 1) := by decide +kernel
theorem d_M_layOdds_65 : decode b_M_layOdds 65 = .ok (.if_icmp .gt 8, 3) := by decide +kernel
theorem d_M_layOdds_68 : decode b_M_layOdds 68 = .ok (.aload_n 0, 1) := by decide +kernel
theorem d_M_layOdds_69 : decode b_M_layOdds 69 = .ok (.iload_n 3, 1) := by decide +kernel
theorem d_M_layOdds_70 : decode b_M_layOdds 70 = .ok (.invokevirtual 227, 3) := by decide +kernel
theorem d_M_layOdds_73 : decode b_M_layOdds 73 = .ok (.iinc 3 1, 3) := by decide +kernel
theorem d_M_layOdds_76 : decode b_M_layOdds 76 = .ok (.goto (-36), 3) := by decide +kernel
theorem d_M_layOdds_79 : decode b_M_layOdds 79 = .ok (.return_, 1) := by decide +kernel
abbrev b_M_takeLook : ByteArray := prog_7_method_44_code
abbrev y_M_takeLook : MethodName := ⟨"OldBeamsModel", "takeLook", "(I)V"⟩
theorem d_M_takeLook_0 : decode b_M_takeLook 0 = .ok (.lconst 0, 1) := by decide +kernel
theorem d_M_takeLook_1 : decode b_M_takeLook 1 = .ok (.lstore_n 2, 1) := by decide +kernel
theorem d_M_takeLook_2 : decode b_M_takeLook 2 = .ok (.iconst 0, 1) := by decide +kernel
theorem d_M_takeLook_3 : decode b_M_takeLook 3 = .ok (.istore 4, 2) := by decide +kernel
theorem d_M_takeLook_5 : decode b_M_takeLook 5 = .ok (.iload 4, 2) := by decide +kernel
theorem d_M_takeLook_7 : decode b_M_takeLook 7 = .ok (.bipush 11, 2) := by decide +kernel
theorem d_M_takeLook_9 : decode b_M_takeLook 9 = .ok (.if_icmp .ge 55, 3) := by decide +kernel
theorem d_M_takeLook_12 : decode b_M_takeLook 12 = .ok (.aload_n 0, 1) := by decide +kernel
theorem d_M_takeLook_13 : decode b_M_takeLook 13 = .ok (.getfield 111, 3) := by decide +kernel
theorem d_M_takeLook_16 : decode b_M_takeLook 16 = .ok (.iload 4, 2) := by decide +kernel
theorem d_M_takeLook_18 : decode b_M_takeLook 18 = .ok (.aload_n 0, 1) := by decide +kernel
theorem d_M_takeLook_19 : decode b_M_takeLook 19 = .ok (.getfield 108, 3) := by decide +kernel
theorem d_M_takeLook_22 : decode b_M_takeLook 22 = .ok (.iload 4, 2) := by decide +kernel
theorem d_M_takeLook_24 : decode b_M_takeLook 24 = .ok (.laload, 1) := by decide +kernel
theorem d_M_takeLook_25 : decode b_M_takeLook 25 = .ok (.aload_n 0, 1) := by decide +kernel
theorem d_M_takeLook_26 : decode b_M_takeLook 26 = .ok (.aload_n 0, 1) := by decide +kernel
theorem d_M_takeLook_27 : decode b_M_takeLook 27 = .ok (.getfield 99, 3) := by decide +kernel
theorem d_M_takeLook_30 : decode b_M_takeLook 30 = .ok (.iload_n 1, 1) := by decide +kernel
theorem d_M_takeLook_31 : decode b_M_takeLook 31 = .ok (.iaload, 1) := by decide +kernel
theorem d_M_takeLook_32 : decode b_M_takeLook 32 = .ok (.aload_n 0, 1) := by decide +kernel
theorem d_M_takeLook_33 : decode b_M_takeLook 33 = .ok (.getfield 102, 3) := by decide +kernel
theorem d_M_takeLook_36 : decode b_M_takeLook 36 = .ok (.iload_n 1, 1) := by decide +kernel
theorem d_M_takeLook_37 : decode b_M_takeLook 37 = .ok (.iaload, 1) := by decide +kernel
theorem d_M_takeLook_38 : decode b_M_takeLook 38 = .ok (.iload 4, 2) := by decide +kernel
theorem d_M_takeLook_40 : decode b_M_takeLook 40 = .ok (.invokevirtual 230, 3) := by decide +kernel
theorem d_M_takeLook_43 : decode b_M_takeLook 43 = .ok (.i2l, 1) := by decide +kernel
theorem d_M_takeLook_44 : decode b_M_takeLook 44 = .ok (.lmul, 1) := by decide +kernel
theorem d_M_takeLook_45 : decode b_M_takeLook 45 = .ok (.lastore, 1) := by decide +kernel
theorem d_M_takeLook_46 : decode b_M_takeLook 46 = .ok (.aload_n 0, 1) := by decide +kernel
theorem d_M_takeLook_47 : decode b_M_takeLook 47 = .ok (.getfield 111, 3) := by decide +kernel
theorem d_M_takeLook_50 : decode b_M_takeLook 50 = .ok (.iload 4, 2) := by decide +kernel
theorem d_M_takeLook_52 : decode b_M_takeLook 52 = .ok (.laload, 1) := by decide +kernel
theorem d_M_takeLook_53 : decode b_M_takeLook 53 = .ok (.lload_n 2, 1) := by decide +kernel
theorem d_M_takeLook_54 : decode b_M_takeLook 54 = .ok (.invokestatic 130, 3) := by decide +kernel
theorem d_M_takeLook_57 : decode b_M_takeLook 57 = .ok (.lstore_n 2, 1) := by decide +kernel
theorem d_M_takeLook_58 : decode b_M_takeLook 58 = .ok (.iinc 4 1, 3) := by decide +kernel
theorem d_M_takeLook_61 : decode b_M_takeLook 61 = .ok (.goto (-56), 3) := by decide +kernel
theorem d_M_takeLook_64 : decode b_M_takeLook 64 = .ok (.lload_n 2, 1) := by decide +kernel
theorem d_M_takeLook_65 : decode b_M_takeLook 65 = .ok (.lconst 0, 1) := by decide +kernel
theorem d_M_takeLook_66 : decode b_M_takeLook 66 = .ok (.lcmp, 1) := by decide +kernel
theorem d_M_takeLook_67 : decode b_M_takeLook 67 = .ok (.ifCond .ne 25, 3) := by decide +kernel
theorem d_M_takeLook_70 : decode b_M_takeLook 70 = .ok (.aload_n 0, 1) := by decide +kernel
theorem d_M_takeLook_71 : decode b_M_takeLook 71 = .ok (.aload_n 0, 1) := by decide +kernel
theorem d_M_takeLook_72 : decode b_M_takeLook 72 = .ok (.getfield 224, 3) := by decide +kernel
theorem d_M_takeLook_75 : decode b_M_takeLook 75 = .ok (.ldc 156, 2) := by decide +kernel
theorem d_M_takeLook_77 : decode b_M_takeLook 77 = .ok (.if_icmp .ne 7, 3) := by decide +kernel
theorem d_M_takeLook_80 : decode b_M_takeLook 80 = .ok (.iload_n 1, 1) := by decide +kernel
theorem d_M_takeLook_81 : decode b_M_takeLook 81 = .ok (.goto 7, 3) := by decide +kernel
theorem d_M_takeLook_84 : decode b_M_takeLook 84 = .ok (.aload_n 0, 1) := by decide +kernel
theorem d_M_takeLook_85 : decode b_M_takeLook 85 = .ok (.getfield 224, 3) := by decide +kernel
theorem d_M_takeLook_88 : decode b_M_takeLook 88 = .ok (.putfield 224, 3) := by decide +kernel
theorem d_M_takeLook_91 : decode b_M_takeLook 91 = .ok (.return_, 1) := by decide +kernel
theorem d_M_takeLook_92 : decode b_M_takeLook 92 = .ok (.iconst 0, 1) := by decide +kernel
theorem d_M_takeLook_93 : decode b_M_takeLook 93 = .ok (.istore 4, 2) := by decide +kernel
theorem d_M_takeLook_95 : decode b_M_takeLook 95 = .ok (.iload 4, 2) := by decide +kernel
theorem d_M_takeLook_97 : decode b_M_takeLook 97 = .ok (.bipush 11, 2) := by decide +kernel
theorem d_M_takeLook_99 : decode b_M_takeLook 99 = .ok (.if_icmp .ge 25, 3) := by decide +kernel
theorem d_M_takeLook_102 : decode b_M_takeLook 102 = .ok (.aload_n 0, 1) := by decide +kernel
theorem d_M_takeLook_103 : decode b_M_takeLook 103 = .ok (.getfield 108, 3) := by decide +kernel
theorem d_M_takeLook_106 : decode b_M_takeLook 106 = .ok (.iload 4, 2) := by decide +kernel
theorem d_M_takeLook_108 : decode b_M_takeLook 108 = .ok (.aload_n 0, 1) := by decide +kernel
theorem d_M_takeLook_109 : decode b_M_takeLook 109 = .ok (.getfield 111, 3) := by decide +kernel
theorem d_M_takeLook_112 : decode b_M_takeLook 112 = .ok (.iload 4, 2) := by decide +kernel
theorem d_M_takeLook_114 : decode b_M_takeLook 114 = .ok (.laload, 1) := by decide +kernel
theorem d_M_takeLook_115 : decode b_M_takeLook 115 = .ok (.lload_n 2, 1) := by decide +kernel
theorem d_M_takeLook_116 : decode b_M_takeLook 116 = .ok (.ldiv, 1) := by decide +kernel
theorem d_M_takeLook_117 : decode b_M_takeLook 117 = .ok (.lastore, 1) := by decide +kernel
theorem d_M_takeLook_118 : decode b_M_takeLook 118 = .ok (.iinc 4 1, 3) := by decide +kernel
theorem d_M_takeLook_121 : decode b_M_takeLook 121 = .ok (.goto (-26), 3) := by decide +kernel
theorem d_M_takeLook_124 : decode b_M_takeLook 124 = .ok (.return_, 1) := by decide +kernel
abbrev b_M_comes : ByteArray := prog_7_method_42_code
abbrev y_M_comes : MethodName := ⟨"OldBeamsModel", "comes", "(III)I"⟩
theorem d_M_comes_0 : decode b_M_comes 0 = .ok (.iload_n 2, 1) := by decide +kernel
theorem d_M_comes_1 : decode b_M_comes 1 = .ok (.iconst 1, 1) := by decide +kernel
theorem d_M_comes_2 : decode b_M_comes 2 = .ok (.if_icmp .ne 17, 3) := by decide +kernel
theorem d_M_comes_5 : decode b_M_comes 5 = .ok (.aload_n 0, 1) := by decide +kernel
theorem d_M_comes_6 : decode b_M_comes 6 = .ok (.getfield 93, 3) := by decide +kernel
theorem d_M_comes_9 : decode b_M_comes 9 = .ok (.bipush 11, 2) := by decide +kernel
theorem d_M_comes_11 : decode b_M_comes 11 = .ok (.iload_n 1, 1) := by decide +kernel
theorem d_M_comes_12 : decode b_M_comes 12 = .ok (.imul, 1) := by decide +kernel
theorem d_M_comes_13 : decode b_M_comes 13 = .ok (.iload_n 3, 1) := by decide +kernel
theorem d_M_comes_14 : decode b_M_comes 14 = .ok (.iadd, 1) := by decide +kernel
theorem d_M_comes_15 : decode b_M_comes 15 = .ok (.iaload, 1) := by decide +kernel
theorem d_M_comes_16 : decode b_M_comes 16 = .ok (.goto 17, 3) := by decide +kernel
theorem d_M_comes_19 : decode b_M_comes 19 = .ok (.bipush 9, 2) := by decide +kernel
theorem d_M_comes_21 : decode b_M_comes 21 = .ok (.aload_n 0, 1) := by decide +kernel
theorem d_M_comes_22 : decode b_M_comes 22 = .ok (.getfield 93, 3) := by decide +kernel
theorem d_M_comes_25 : decode b_M_comes 25 = .ok (.bipush 11, 2) := by decide +kernel
theorem d_M_comes_27 : decode b_M_comes 27 = .ok (.iload_n 1, 1) := by decide +kernel
theorem d_M_comes_28 : decode b_M_comes 28 = .ok (.imul, 1) := by decide +kernel
theorem d_M_comes_29 : decode b_M_comes 29 = .ok (.iload_n 3, 1) := by decide +kernel
theorem d_M_comes_30 : decode b_M_comes 30 = .ok (.iadd, 1) := by decide +kernel
theorem d_M_comes_31 : decode b_M_comes 31 = .ok (.iaload, 1) := by decide +kernel
theorem d_M_comes_32 : decode b_M_comes 32 = .ok (.isub, 1) := by decide +kernel
theorem d_M_comes_33 : decode b_M_comes 33 = .ok (.ireturn, 1) := by decide +kernel
abbrev b_M_common : ByteArray := prog_7_method_5_code
abbrev y_M_common : MethodName := ⟨"OldBeamsModel", "common", "(JJ)J"⟩
theorem d_M_common_0 : decode b_M_common 0 = .ok (.lload_n 0, 1) := by decide +kernel
theorem d_M_common_1 : decode b_M_common 1 = .ok (.lconst 0, 1) := by decide +kernel
theorem d_M_common_2 : decode b_M_common 2 = .ok (.lcmp, 1) := by decide +kernel
theorem d_M_common_3 : decode b_M_common 3 = .ok (.ifCond .ge 8, 3) := by decide +kernel
theorem d_M_common_6 : decode b_M_common 6 = .ok (.lload_n 0, 1) := by decide +kernel
theorem d_M_common_7 : decode b_M_common 7 = .ok (.lneg, 1) := by decide +kernel
theorem d_M_common_8 : decode b_M_common 8 = .ok (.goto 4, 3) := by decide +kernel
theorem d_M_common_11 : decode b_M_common 11 = .ok (.lload_n 0, 1) := by decide +kernel
theorem d_M_common_12 : decode b_M_common 12 = .ok (.lstore 4, 2) := by decide +kernel
theorem d_M_common_14 : decode b_M_common 14 = .ok (.lload_n 2, 1) := by decide +kernel
theorem d_M_common_15 : decode b_M_common 15 = .ok (.lstore 6, 2) := by decide +kernel
theorem d_M_common_17 : decode b_M_common 17 = .ok (.lload 6, 2) := by decide +kernel
theorem d_M_common_19 : decode b_M_common 19 = .ok (.lconst 0, 1) := by decide +kernel
theorem d_M_common_20 : decode b_M_common 20 = .ok (.lcmp, 1) := by decide +kernel
theorem d_M_common_21 : decode b_M_common 21 = .ok (.ifCond .eq 21, 3) := by decide +kernel
theorem d_M_common_24 : decode b_M_common 24 = .ok (.lload 4, 2) := by decide +kernel
theorem d_M_common_26 : decode b_M_common 26 = .ok (.lload 6, 2) := by decide +kernel
theorem d_M_common_28 : decode b_M_common 28 = .ok (.lrem, 1) := by decide +kernel
theorem d_M_common_29 : decode b_M_common 29 = .ok (.lstore 8, 2) := by decide +kernel
theorem d_M_common_31 : decode b_M_common 31 = .ok (.lload 6, 2) := by decide +kernel
theorem d_M_common_33 : decode b_M_common 33 = .ok (.lstore 4, 2) := by decide +kernel
theorem d_M_common_35 : decode b_M_common 35 = .ok (.lload 8, 2) := by decide +kernel
theorem d_M_common_37 : decode b_M_common 37 = .ok (.lstore 6, 2) := by decide +kernel
theorem d_M_common_39 : decode b_M_common 39 = .ok (.goto (-22), 3) := by decide +kernel
theorem d_M_common_42 : decode b_M_common 42 = .ok (.lload 4, 2) := by decide +kernel
theorem d_M_common_44 : decode b_M_common 44 = .ok (.lreturn, 1) := by decide +kernel
abbrev b_M_quarrel : ByteArray := prog_7_method_46_code
abbrev y_M_quarrel : MethodName := ⟨"OldBeamsModel", "quarrel", "(II)I"⟩
theorem d_M_quarrel_0 : decode b_M_quarrel 0 = .ok (.aload_n 0, 1) := by decide +kernel
theorem d_M_quarrel_1 : decode b_M_quarrel 1 = .ok (.iload_n 1, 1) := by decide +kernel
theorem d_M_quarrel_2 : decode b_M_quarrel 2 = .ok (.invokevirtual 157, 3) := by decide +kernel
theorem d_M_quarrel_5 : decode b_M_quarrel 5 = .ok (.ifCond .ne 6, 3) := by decide +kernel
theorem d_M_quarrel_8 : decode b_M_quarrel 8 = .ok (.ldc 136, 2) := by decide +kernel
theorem d_M_quarrel_10 : decode b_M_quarrel 10 = .ok (.ireturn, 1) := by decide +kernel
theorem d_M_quarrel_11 : decode b_M_quarrel 11 = .ok (.iload_n 2, 1) := by decide +kernel
theorem d_M_quarrel_12 : decode b_M_quarrel 12 = .ok (.invokestatic 151, 3) := by decide +kernel
theorem d_M_quarrel_15 : decode b_M_quarrel 15 = .ok (.ifCond .ne 6, 3) := by decide +kernel
theorem d_M_quarrel_18 : decode b_M_quarrel 18 = .ok (.ldc 143, 2) := by decide +kernel
theorem d_M_quarrel_20 : decode b_M_quarrel 20 = .ok (.ireturn, 1) := by decide +kernel
theorem d_M_quarrel_21 : decode b_M_quarrel 21 = .ok (.aload_n 0, 1) := by decide +kernel
theorem d_M_quarrel_22 : decode b_M_quarrel 22 = .ok (.iload_n 1, 1) := by decide +kernel
theorem d_M_quarrel_23 : decode b_M_quarrel 23 = .ok (.iload_n 2, 1) := by decide +kernel
theorem d_M_quarrel_24 : decode b_M_quarrel 24 = .ok (.invokevirtual 238, 3) := by decide +kernel
theorem d_M_quarrel_27 : decode b_M_quarrel 27 = .ok (.aload_n 0, 1) := by decide +kernel
theorem d_M_quarrel_28 : decode b_M_quarrel 28 = .ok (.getfield 224, 3) := by decide +kernel
theorem d_M_quarrel_31 : decode b_M_quarrel 31 = .ok (.ireturn, 1) := by decide +kernel
abbrev b_M_share : ByteArray := prog_7_method_49_code
abbrev y_M_share : MethodName := ⟨"OldBeamsModel", "share", "(IIIZ)I"⟩
theorem d_M_share_0 : decode b_M_share 0 = .ok (.aload_n 0, 1) := by decide +kernel
theorem d_M_share_1 : decode b_M_share 1 = .ok (.iload_n 1, 1) := by decide +kernel
theorem d_M_share_2 : decode b_M_share 2 = .ok (.invokevirtual 157, 3) := by decide +kernel
theorem d_M_share_5 : decode b_M_share 5 = .ok (.ifCond .ne 6, 3) := by decide +kernel
theorem d_M_share_8 : decode b_M_share 8 = .ok (.ldc 136, 2) := by decide +kernel
theorem d_M_share_10 : decode b_M_share 10 = .ok (.ireturn, 1) := by decide +kernel
theorem d_M_share_11 : decode b_M_share 11 = .ok (.iload_n 2, 1) := by decide +kernel
theorem d_M_share_12 : decode b_M_share 12 = .ok (.iload_n 3, 1) := by decide +kernel
theorem d_M_share_13 : decode b_M_share 13 = .ok (.invokestatic 242, 3) := by decide +kernel
theorem d_M_share_16 : decode b_M_share 16 = .ok (.ifCond .eq 15, 3) := by decide +kernel
theorem d_M_share_19 : decode b_M_share 19 = .ok (.aload_n 0, 1) := by decide +kernel
theorem d_M_share_20 : decode b_M_share 20 = .ok (.iload_n 1, 1) := by decide +kernel
theorem d_M_share_21 : decode b_M_share 21 = .ok (.iload_n 2, 1) := by decide +kernel
theorem d_M_share_22 : decode b_M_share 22 = .ok (.iload_n 3, 1) := by decide +kernel
theorem d_M_share_23 : decode b_M_share 23 = .ok (.iload 4, 2) := by decide +kernel
theorem d_M_share_25 : decode b_M_share 25 = .ok (.invokevirtual 245, 3) := by decide +kernel
theorem d_M_share_28 : decode b_M_share 28 = .ok (.goto 5, 3) := by decide +kernel
theorem d_M_share_31 : decode b_M_share 31 = .ok (.ldc 143, 2) := by decide +kernel
theorem d_M_share_33 : decode b_M_share 33 = .ok (.ireturn, 1) := by decide +kernel
abbrev b_M_areYears : ByteArray := prog_7_method_48_code
abbrev y_M_areYears : MethodName := ⟨"OldBeamsModel", "areYears", "(II)Z"⟩
theorem d_M_areYears_0 : decode b_M_areYears 0 = .ok (.iload_n 0, 1) := by decide +kernel
theorem d_M_areYears_1 : decode b_M_areYears 1 = .ok (.invokestatic 151, 3) := by decide +kernel
theorem d_M_areYears_4 : decode b_M_areYears 4 = .ok (.ifCond .eq 20, 3) := by decide +kernel
theorem d_M_areYears_7 : decode b_M_areYears 7 = .ok (.iload_n 1, 1) := by decide +kernel
theorem d_M_areYears_8 : decode b_M_areYears 8 = .ok (.i2l, 1) := by decide +kernel
theorem d_M_areYears_9 : decode b_M_areYears 9 = .ok (.iload_n 0, 1) := by decide +kernel
theorem d_M_areYears_10 : decode b_M_areYears 10 = .ok (.i2l, 1) := by decide +kernel
theorem d_M_areYears_11 : decode b_M_areYears 11 = .ok (.ldc2_w 124, 3) := by decide +kernel
theorem d_M_areYears_14 : decode b_M_areYears 14 = .ok (.invokestatic 126, 3) := by decide +kernel
theorem d_M_areYears_17 : decode b_M_areYears 17 = .ok (.ifCond .eq 7, 3) := by decide +kernel
theorem d_M_areYears_20 : decode b_M_areYears 20 = .ok (.iconst 1, 1) := by decide +kernel
theorem d_M_areYears_21 : decode b_M_areYears 21 = .ok (.goto 4, 3) := by decide +kernel
theorem d_M_areYears_24 : decode b_M_areYears 24 = .ok (.iconst 0, 1) := by decide +kernel
theorem d_M_areYears_25 : decode b_M_areYears 25 = .ok (.ireturn, 1) := by decide +kernel
abbrev b_M_shareOf : ByteArray := prog_7_method_47_code
abbrev y_M_shareOf : MethodName := ⟨"OldBeamsModel", "shareOf", "(IIIZ)I"⟩
theorem d_M_shareOf_0 : decode b_M_shareOf 0 = .ok (.aload_n 0, 1) := by decide +kernel
theorem d_M_shareOf_1 : decode b_M_shareOf 1 = .ok (.iload_n 1, 1) := by decide +kernel
theorem d_M_shareOf_2 : decode b_M_shareOf 2 = .ok (.iload_n 2, 1) := by decide +kernel
theorem d_M_shareOf_3 : decode b_M_shareOf 3 = .ok (.invokevirtual 238, 3) := by decide +kernel
theorem d_M_shareOf_6 : decode b_M_shareOf 6 = .ok (.iload 4, 2) := by decide +kernel
theorem d_M_shareOf_8 : decode b_M_shareOf 8 = .ok (.ifCond .eq 8, 3) := by decide +kernel
theorem d_M_shareOf_11 : decode b_M_shareOf 11 = .ok (.bipush 10, 2) := by decide +kernel
theorem d_M_shareOf_13 : decode b_M_shareOf 13 = .ok (.goto 4, 3) := by decide +kernel
theorem d_M_shareOf_16 : decode b_M_shareOf 16 = .ok (.iconst 0, 1) := by decide +kernel
theorem d_M_shareOf_17 : decode b_M_shareOf 17 = .ok (.istore 5, 2) := by decide +kernel
theorem d_M_shareOf_19 : decode b_M_shareOf 19 = .ok (.aload_n 0, 1) := by decide +kernel
theorem d_M_shareOf_20 : decode b_M_shareOf 20 = .ok (.getfield 108, 3) := by decide +kernel
theorem d_M_shareOf_23 : decode b_M_shareOf 23 = .ok (.iload 5, 2) := by decide +kernel
theorem d_M_shareOf_25 : decode b_M_shareOf 25 = .ok (.laload, 1) := by decide +kernel
theorem d_M_shareOf_26 : decode b_M_shareOf 26 = .ok (.lconst 0, 1) := by decide +kernel
theorem d_M_shareOf_27 : decode b_M_shareOf 27 = .ok (.lcmp, 1) := by decide +kernel
theorem d_M_shareOf_28 : decode b_M_shareOf 28 = .ok (.ifCond .ne 21, 3) := by decide +kernel
theorem d_M_shareOf_31 : decode b_M_shareOf 31 = .ok (.iload 5, 2) := by decide +kernel
theorem d_M_shareOf_33 : decode b_M_shareOf 33 = .ok (.iload 4, 2) := by decide +kernel
theorem d_M_shareOf_35 : decode b_M_shareOf 35 = .ok (.ifCond .eq 7, 3) := by decide +kernel
theorem d_M_shareOf_38 : decode b_M_shareOf 38 = .ok (.iconst (-1), 1) := by decide +kernel
theorem d_M_shareOf_39 : decode b_M_shareOf 39 = .ok (.goto 4, 3) := by decide +kernel
theorem d_M_shareOf_42 : decode b_M_shareOf 42 = .ok (.iconst 1, 1) := by decide +kernel
theorem d_M_shareOf_43 : decode b_M_shareOf 43 = .ok (.iadd, 1) := by decide +kernel
theorem d_M_shareOf_44 : decode b_M_shareOf 44 = .ok (.istore 5, 2) := by decide +kernel
theorem d_M_shareOf_46 : decode b_M_shareOf 46 = .ok (.goto (-27), 3) := by decide +kernel
theorem d_M_shareOf_49 : decode b_M_shareOf 49 = .ok (.iload_n 3, 1) := by decide +kernel
theorem d_M_shareOf_50 : decode b_M_shareOf 50 = .ok (.iload_n 2, 1) := by decide +kernel
theorem d_M_shareOf_51 : decode b_M_shareOf 51 = .ok (.isub, 1) := by decide +kernel
theorem d_M_shareOf_52 : decode b_M_shareOf 52 = .ok (.aload_n 0, 1) := by decide +kernel
theorem d_M_shareOf_53 : decode b_M_shareOf 53 = .ok (.getfield 13, 3) := by decide +kernel
theorem d_M_shareOf_56 : decode b_M_shareOf 56 = .ok (.iconst 2, 1) := by decide +kernel
theorem d_M_shareOf_57 : decode b_M_shareOf 57 = .ok (.aload_n 0, 1) := by decide +kernel
theorem d_M_shareOf_58 : decode b_M_shareOf 58 = .ok (.getfield 16, 3) := by decide +kernel
theorem d_M_shareOf_61 : decode b_M_shareOf 61 = .ok (.iload_n 1, 1) := by decide +kernel
theorem d_M_shareOf_62 : decode b_M_shareOf 62 = .ok (.iaload, 1) := by decide +kernel
theorem d_M_shareOf_63 : decode b_M_shareOf 63 = .ok (.imul, 1) := by decide +kernel
theorem d_M_shareOf_64 : decode b_M_shareOf 64 = .ok (.aload_n 0, 1) := by decide +kernel
theorem d_M_shareOf_65 : decode b_M_shareOf 65 = .ok (.getfield 28, 3) := by decide +kernel
theorem d_M_shareOf_68 : decode b_M_shareOf 68 = .ok (.iload_n 1, 1) := by decide +kernel
theorem d_M_shareOf_69 : decode b_M_shareOf 69 = .ok (.baload, 1) := by decide +kernel
theorem d_M_shareOf_70 : decode b_M_shareOf 70 = .ok (.ifCond .eq 7, 3) := by decide +kernel
theorem d_M_shareOf_73 : decode b_M_shareOf 73 = .ok (.iconst 1, 1) := by decide +kernel
theorem d_M_shareOf_74 : decode b_M_shareOf 74 = .ok (.goto 4, 3) := by decide +kernel
theorem d_M_shareOf_77 : decode b_M_shareOf 77 = .ok (.iconst 0, 1) := by decide +kernel
theorem d_M_shareOf_78 : decode b_M_shareOf 78 = .ok (.iadd, 1) := by decide +kernel
theorem d_M_shareOf_79 : decode b_M_shareOf 79 = .ok (.iaload, 1) := by decide +kernel
theorem d_M_shareOf_80 : decode b_M_shareOf 80 = .ok (.imul, 1) := by decide +kernel
theorem d_M_shareOf_81 : decode b_M_shareOf 81 = .ok (.bipush 10, 2) := by decide +kernel
theorem d_M_shareOf_83 : decode b_M_shareOf 83 = .ok (.idiv, 1) := by decide +kernel
theorem d_M_shareOf_84 : decode b_M_shareOf 84 = .ok (.istore 6, 2) := by decide +kernel
theorem d_M_shareOf_86 : decode b_M_shareOf 86 = .ok (.iload 5, 2) := by decide +kernel
theorem d_M_shareOf_88 : decode b_M_shareOf 88 = .ok (.iload 6, 2) := by decide +kernel
theorem d_M_shareOf_90 : decode b_M_shareOf 90 = .ok (.if_icmp .ge 7, 3) := by decide +kernel
theorem d_M_shareOf_93 : decode b_M_shareOf 93 = .ok (.iconst 0, 1) := by decide +kernel
theorem d_M_shareOf_94 : decode b_M_shareOf 94 = .ok (.goto 8, 3) := by decide +kernel
theorem d_M_shareOf_97 : decode b_M_shareOf 97 = .ok (.iload 5, 2) := by decide +kernel
theorem d_M_shareOf_99 : decode b_M_shareOf 99 = .ok (.iload 6, 2) := by decide +kernel
theorem d_M_shareOf_101 : decode b_M_shareOf 101 = .ok (.isub, 1) := by decide +kernel
theorem d_M_shareOf_102 : decode b_M_shareOf 102 = .ok (.ireturn, 1) := by decide +kernel
abbrev b_M_stands : ByteArray := prog_7_method_51_code
abbrev y_M_stands : MethodName := ⟨"OldBeamsModel", "stands", "(IIZ)I"⟩
theorem d_M_stands_0 : decode b_M_stands 0 = .ok (.iload_n 1, 1) := by decide +kernel
theorem d_M_stands_1 : decode b_M_stands 1 = .ok (.iload_n 2, 1) := by decide +kernel
theorem d_M_stands_2 : decode b_M_stands 2 = .ok (.invokestatic 242, 3) := by decide +kernel
theorem d_M_stands_5 : decode b_M_stands 5 = .ok (.ifCond .ne 6, 3) := by decide +kernel
theorem d_M_stands_8 : decode b_M_stands 8 = .ok (.ldc 143, 2) := by decide +kernel
theorem d_M_stands_10 : decode b_M_stands 10 = .ok (.ireturn, 1) := by decide +kernel
theorem d_M_stands_11 : decode b_M_stands 11 = .ok (.aload_n 0, 1) := by decide +kernel
theorem d_M_stands_12 : decode b_M_stands 12 = .ok (.invokevirtual 161, 3) := by decide +kernel
theorem d_M_stands_15 : decode b_M_stands 15 = .ok (.aload_n 0, 1) := by decide +kernel
theorem d_M_stands_16 : decode b_M_stands 16 = .ok (.iload_n 1, 1) := by decide +kernel
theorem d_M_stands_17 : decode b_M_stands 17 = .ok (.iload_n 2, 1) := by decide +kernel
theorem d_M_stands_18 : decode b_M_stands 18 = .ok (.iload_n 3, 1) := by decide +kernel
theorem d_M_stands_19 : decode b_M_stands 19 = .ok (.invokevirtual 249, 3) := by decide +kernel
theorem d_M_stands_22 : decode b_M_stands 22 = .ok (.ifCond .eq 7, 3) := by decide +kernel
theorem d_M_stands_25 : decode b_M_stands 25 = .ok (.iconst 1, 1) := by decide +kernel
theorem d_M_stands_26 : decode b_M_stands 26 = .ok (.goto 4, 3) := by decide +kernel
theorem d_M_stands_29 : decode b_M_stands 29 = .ok (.iconst 0, 1) := by decide +kernel
theorem d_M_stands_30 : decode b_M_stands 30 = .ok (.ireturn, 1) := by decide +kernel
abbrev b_M_isStanding : ByteArray := prog_7_method_50_code
abbrev y_M_isStanding : MethodName := ⟨"OldBeamsModel", "isStanding", "(IIZ)Z"⟩
theorem d_M_isStanding_0 : decode b_M_isStanding 0 = .ok (.aload_n 0, 1) := by decide +kernel
theorem d_M_isStanding_1 : decode b_M_isStanding 1 = .ok (.invokevirtual 202, 3) := by decide +kernel
theorem d_M_isStanding_4 : decode b_M_isStanding 4 = .ok (.ifCond .ne 7, 3) := by decide +kernel
theorem d_M_isStanding_7 : decode b_M_isStanding 7 = .ok (.iconst 1, 1) := by decide +kernel
theorem d_M_isStanding_8 : decode b_M_isStanding 8 = .ok (.goto 4, 3) := by decide +kernel
theorem d_M_isStanding_11 : decode b_M_isStanding 11 = .ok (.iconst 0, 1) := by decide +kernel
theorem d_M_isStanding_12 : decode b_M_isStanding 12 = .ok (.istore 4, 2) := by decide +kernel
theorem d_M_isStanding_14 : decode b_M_isStanding 14 = .ok (.iconst 0, 1) := by decide +kernel
theorem d_M_isStanding_15 : decode b_M_isStanding 15 = .ok (.istore 5, 2) := by decide +kernel
theorem d_M_isStanding_17 : decode b_M_isStanding 17 = .ok (.iload 5, 2) := by decide +kernel
theorem d_M_isStanding_19 : decode b_M_isStanding 19 = .ok (.aload_n 0, 1) := by decide +kernel
theorem d_M_isStanding_20 : decode b_M_isStanding 20 = .ok (.getfield 144, 3) := by decide +kernel
theorem d_M_isStanding_23 : decode b_M_isStanding 23 = .ok (.if_icmp .ge 31, 3) := by decide +kernel
theorem d_M_isStanding_26 : decode b_M_isStanding 26 = .ok (.iload 4, 2) := by decide +kernel
theorem d_M_isStanding_28 : decode b_M_isStanding 28 = .ok (.ifCond .eq 26, 3) := by decide +kernel
theorem d_M_isStanding_31 : decode b_M_isStanding 31 = .ok (.aload_n 0, 1) := by decide +kernel
theorem d_M_isStanding_32 : decode b_M_isStanding 32 = .ok (.iload 5, 2) := by decide +kernel
theorem d_M_isStanding_34 : decode b_M_isStanding 34 = .ok (.aload_n 0, 1) := by decide +kernel
theorem d_M_isStanding_35 : decode b_M_isStanding 35 = .ok (.iload 5, 2) := by decide +kernel
theorem d_M_isStanding_37 : decode b_M_isStanding 37 = .ok (.iload_n 1, 1) := by decide +kernel
theorem d_M_isStanding_38 : decode b_M_isStanding 38 = .ok (.iload_n 2, 1) := by decide +kernel
theorem d_M_isStanding_39 : decode b_M_isStanding 39 = .ok (.iload_n 3, 1) := by decide +kernel
theorem d_M_isStanding_40 : decode b_M_isStanding 40 = .ok (.invokevirtual 245, 3) := by decide +kernel
theorem d_M_isStanding_43 : decode b_M_isStanding 43 = .ok (.invokevirtual 210, 3) := by decide +kernel
theorem d_M_isStanding_46 : decode b_M_isStanding 46 = .ok (.istore 4, 2) := by decide +kernel
theorem d_M_isStanding_48 : decode b_M_isStanding 48 = .ok (.iinc 5 1, 3) := by decide +kernel
theorem d_M_isStanding_51 : decode b_M_isStanding 51 = .ok (.goto (-34), 3) := by decide +kernel
theorem d_M_isStanding_54 : decode b_M_isStanding 54 = .ok (.iload 4, 2) := by decide +kernel
theorem d_M_isStanding_56 : decode b_M_isStanding 56 = .ok (.ireturn, 1) := by decide +kernel
abbrev b_M_until : ByteArray := prog_7_method_52_code
abbrev y_M_until : MethodName := ⟨"OldBeamsModel", "until", "(IZ)I"⟩
theorem d_M_until_0 : decode b_M_until 0 = .ok (.iload_n 1, 1) := by decide +kernel
theorem d_M_until_1 : decode b_M_until 1 = .ok (.invokestatic 151, 3) := by decide +kernel
theorem d_M_until_4 : decode b_M_until 4 = .ok (.ifCond .ne 6, 3) := by decide +kernel
theorem d_M_until_7 : decode b_M_until 7 = .ok (.ldc 143, 2) := by decide +kernel
theorem d_M_until_9 : decode b_M_until 9 = .ok (.ireturn, 1) := by decide +kernel
theorem d_M_until_10 : decode b_M_until 10 = .ok (.aload_n 0, 1) := by decide +kernel
theorem d_M_until_11 : decode b_M_until 11 = .ok (.invokevirtual 161, 3) := by decide +kernel
theorem d_M_until_14 : decode b_M_until 14 = .ok (.ldc 156, 2) := by decide +kernel
theorem d_M_until_16 : decode b_M_until 16 = .ok (.istore_n 3, 1) := by decide +kernel
theorem d_M_until_17 : decode b_M_until 17 = .ok (.iload_n 1, 1) := by decide +kernel
theorem d_M_until_18 : decode b_M_until 18 = .ok (.istore 4, 2) := by decide +kernel
theorem d_M_until_20 : decode b_M_until 20 = .ok (.iload 4, 2) := by decide +kernel
theorem d_M_until_22 : decode b_M_until 22 = .ok (.sipush 500, 3) := by decide +kernel
theorem d_M_until_25 : decode b_M_until 25 = .ok (.if_icmp .gt 23, 3) := by decide +kernel
theorem d_M_until_28 : decode b_M_until 28 = .ok (.aload_n 0, 1) := by decide +kernel
theorem d_M_until_29 : decode b_M_until 29 = .ok (.iload_n 1, 1) := by decide +kernel
theorem d_M_until_30 : decode b_M_until 30 = .ok (.iload 4, 2) := by decide +kernel
theorem d_M_until_32 : decode b_M_until 32 = .ok (.iload_n 2, 1) := by decide +kernel
theorem d_M_until_33 : decode b_M_until 33 = .ok (.invokevirtual 249, 3) := by decide +kernel
theorem d_M_until_36 : decode b_M_until 36 = .ok (.ifCond .eq 12, 3) := by decide +kernel
theorem d_M_until_39 : decode b_M_until 39 = .ok (.iload 4, 2) := by decide +kernel
theorem d_M_until_41 : decode b_M_until 41 = .ok (.istore_n 3, 1) := by decide +kernel
theorem d_M_until_42 : decode b_M_until 42 = .ok (.iinc 4 1, 3) := by decide +kernel
theorem d_M_until_45 : decode b_M_until 45 = .ok (.goto (-25), 3) := by decide +kernel
theorem d_M_until_48 : decode b_M_until 48 = .ok (.iload_n 3, 1) := by decide +kernel
theorem d_M_until_49 : decode b_M_until 49 = .ok (.ireturn, 1) := by decide +kernel
abbrev b_M_chance : ByteArray := prog_7_method_54_code
abbrev y_M_chance : MethodName := ⟨"OldBeamsModel", "chance", "(IIZ)J"⟩
theorem d_M_chance_0 : decode b_M_chance 0 = .ok (.aload_n 0, 1) := by decide +kernel
theorem d_M_chance_1 : decode b_M_chance 1 = .ok (.iload_n 1, 1) := by decide +kernel
theorem d_M_chance_2 : decode b_M_chance 2 = .ok (.iload_n 2, 1) := by decide +kernel
theorem d_M_chance_3 : decode b_M_chance 3 = .ok (.invokestatic 151, 3) := by decide +kernel
theorem d_M_chance_6 : decode b_M_chance 6 = .ok (.invokevirtual 206, 3) := by decide +kernel
theorem d_M_chance_9 : decode b_M_chance 9 = .ok (.istore 4, 2) := by decide +kernel
theorem d_M_chance_11 : decode b_M_chance 11 = .ok (.iload 4, 2) := by decide +kernel
theorem d_M_chance_13 : decode b_M_chance 13 = .ok (.ifCond .ge 7, 3) := by decide +kernel
theorem d_M_chance_16 : decode b_M_chance 16 = .ok (.iload 4, 2) := by decide +kernel
theorem d_M_chance_18 : decode b_M_chance 18 = .ok (.i2l, 1) := by decide +kernel
theorem d_M_chance_19 : decode b_M_chance 19 = .ok (.lreturn, 1) := by decide +kernel
theorem d_M_chance_20 : decode b_M_chance 20 = .ok (.aload_n 0, 1) := by decide +kernel
theorem d_M_chance_21 : decode b_M_chance 21 = .ok (.iload_n 1, 1) := by decide +kernel
theorem d_M_chance_22 : decode b_M_chance 22 = .ok (.iload_n 2, 1) := by decide +kernel
theorem d_M_chance_23 : decode b_M_chance 23 = .ok (.invokevirtual 260, 3) := by decide +kernel
theorem d_M_chance_26 : decode b_M_chance 26 = .ok (.aload_n 0, 1) := by decide +kernel
theorem d_M_chance_27 : decode b_M_chance 27 = .ok (.getfield 253, 3) := by decide +kernel
theorem d_M_chance_30 : decode b_M_chance 30 = .ok (.aload_n 0, 1) := by decide +kernel
theorem d_M_chance_31 : decode b_M_chance 31 = .ok (.getfield 257, 3) := by decide +kernel
theorem d_M_chance_34 : decode b_M_chance 34 = .ok (.iload_n 3, 1) := by decide +kernel
theorem d_M_chance_35 : decode b_M_chance 35 = .ok (.invokestatic 263, 3) := by decide +kernel
theorem d_M_chance_38 : decode b_M_chance 38 = .ok (.lreturn, 1) := by decide +kernel
abbrev b_M_layChance : ByteArray := prog_7_method_53_code
abbrev y_M_layChance : MethodName := ⟨"OldBeamsModel", "layChance", "(II)V"⟩
theorem d_M_layChance_0 : decode b_M_layChance 0 = .ok (.aload_n 0, 1) := by decide +kernel
theorem d_M_layChance_1 : decode b_M_layChance 1 = .ok (.iload_n 1, 1) := by decide +kernel
theorem d_M_layChance_2 : decode b_M_layChance 2 = .ok (.iload_n 2, 1) := by decide +kernel
theorem d_M_layChance_3 : decode b_M_layChance 3 = .ok (.invokevirtual 238, 3) := by decide +kernel
theorem d_M_layChance_6 : decode b_M_layChance 6 = .ok (.aload_n 0, 1) := by decide +kernel
theorem d_M_layChance_7 : decode b_M_layChance 7 = .ok (.lconst 0, 1) := by decide +kernel
theorem d_M_layChance_8 : decode b_M_layChance 8 = .ok (.putfield 253, 3) := by decide +kernel
theorem d_M_layChance_11 : decode b_M_layChance 11 = .ok (.aload_n 0, 1) := by decide +kernel
theorem d_M_layChance_12 : decode b_M_layChance 12 = .ok (.lconst 0, 1) := by decide +kernel
theorem d_M_layChance_13 : decode b_M_layChance 13 = .ok (.putfield 257, 3) := by decide +kernel
theorem d_M_layChance_16 : decode b_M_layChance 16 = .ok (.iconst 0, 1) := by decide +kernel
theorem d_M_layChance_17 : decode b_M_layChance 17 = .ok (.istore_n 3, 1) := by decide +kernel
theorem d_M_layChance_18 : decode b_M_layChance 18 = .ok (.iload_n 3, 1) := by decide +kernel
theorem d_M_layChance_19 : decode b_M_layChance 19 = .ok (.bipush 11, 2) := by decide +kernel
theorem d_M_layChance_21 : decode b_M_layChance 21 = .ok (.if_icmp .ge 52, 3) := by decide +kernel
theorem d_M_layChance_24 : decode b_M_layChance 24 = .ok (.aload_n 0, 1) := by decide +kernel
theorem d_M_layChance_25 : decode b_M_layChance 25 = .ok (.dup, 1) := by decide +kernel
theorem d_M_layChance_26 : decode b_M_layChance 26 = .ok (.getfield 257, 3) := by decide +kernel
theorem d_M_layChance_29 : decode b_M_layChance 29 = .ok (.aload_n 0, 1) := by decide +kernel
theorem d_M_layChance_30 : decode b_M_layChance 30 = .ok (.getfield 108, 3) := by decide +kernel
theorem d_M_layChance_33 : decode b_M_layChance 33 = .ok (.iload_n 3, 1) := by decide +kernel
theorem d_M_layChance_34 : decode b_M_layChance 34 = .ok (.laload, 1) := by decide +kernel
theorem d_M_layChance_35 : decode b_M_layChance 35 = .ok (.ladd, 1) := by decide +kernel
theorem d_M_layChance_36 : decode b_M_layChance 36 = .ok (.putfield 257, 3) := by decide +kernel
theorem d_M_layChance_39 : decode b_M_layChance 39 = .ok (.aload_n 0, 1) := by decide +kernel
theorem d_M_layChance_40 : decode b_M_layChance 40 = .ok (.dup, 1) := by decide +kernel
theorem d_M_layChance_41 : decode b_M_layChance 41 = .ok (.getfield 253, 3) := by decide +kernel
theorem d_M_layChance_44 : decode b_M_layChance 44 = .ok (.aload_n 0, 1) := by decide +kernel
theorem d_M_layChance_45 : decode b_M_layChance 45 = .ok (.iload_n 1, 1) := by decide +kernel
theorem d_M_layChance_46 : decode b_M_layChance 46 = .ok (.iload_n 3, 1) := by decide +kernel
theorem d_M_layChance_47 : decode b_M_layChance 47 = .ok (.invokevirtual 210, 3) := by decide +kernel
theorem d_M_layChance_50 : decode b_M_layChance 50 = .ok (.ifCond .eq 12, 3) := by decide +kernel
theorem d_M_layChance_53 : decode b_M_layChance 53 = .ok (.aload_n 0, 1) := by decide +kernel
theorem d_M_layChance_54 : decode b_M_layChance 54 = .ok (.getfield 108, 3) := by decide +kernel
theorem d_M_layChance_57 : decode b_M_layChance 57 = .ok (.iload_n 3, 1) := by decide +kernel
theorem d_M_layChance_58 : decode b_M_layChance 58 = .ok (.laload, 1) := by decide +kernel
theorem d_M_layChance_59 : decode b_M_layChance 59 = .ok (.goto 4, 3) := by decide +kernel
theorem d_M_layChance_62 : decode b_M_layChance 62 = .ok (.lconst 0, 1) := by decide +kernel
theorem d_M_layChance_63 : decode b_M_layChance 63 = .ok (.ladd, 1) := by decide +kernel
theorem d_M_layChance_64 : decode b_M_layChance 64 = .ok (.putfield 253, 3) := by decide +kernel
theorem d_M_layChance_67 : decode b_M_layChance 67 = .ok (.iinc 3 1, 3) := by decide +kernel
theorem d_M_layChance_70 : decode b_M_layChance 70 = .ok (.goto (-52), 3) := by decide +kernel
theorem d_M_layChance_73 : decode b_M_layChance 73 = .ok (.return_, 1) := by decide +kernel
abbrev b_M_told : ByteArray := prog_7_method_6_code
abbrev y_M_told : MethodName := ⟨"OldBeamsModel", "told", "(JJZ)J"⟩
theorem d_M_told_0 : decode b_M_told 0 = .ok (.lload_n 0, 1) := by decide +kernel
theorem d_M_told_1 : decode b_M_told 1 = .ok (.lload_n 2, 1) := by decide +kernel
theorem d_M_told_2 : decode b_M_told 2 = .ok (.invokestatic 130, 3) := by decide +kernel
theorem d_M_told_5 : decode b_M_told 5 = .ok (.lstore 5, 2) := by decide +kernel
theorem d_M_told_7 : decode b_M_told 7 = .ok (.iload 4, 2) := by decide +kernel
theorem d_M_told_9 : decode b_M_told 9 = .ok (.ifCond .eq 10, 3) := by decide +kernel
theorem d_M_told_12 : decode b_M_told 12 = .ok (.lload_n 0, 1) := by decide +kernel
theorem d_M_told_13 : decode b_M_told 13 = .ok (.lload 5, 2) := by decide +kernel
theorem d_M_told_15 : decode b_M_told 15 = .ok (.ldiv, 1) := by decide +kernel
theorem d_M_told_16 : decode b_M_told 16 = .ok (.goto 7, 3) := by decide +kernel
theorem d_M_told_19 : decode b_M_told 19 = .ok (.lload_n 2, 1) := by decide +kernel
theorem d_M_told_20 : decode b_M_told 20 = .ok (.lload 5, 2) := by decide +kernel
theorem d_M_told_22 : decode b_M_told 22 = .ok (.ldiv, 1) := by decide +kernel
theorem d_M_told_23 : decode b_M_told 23 = .ok (.lreturn, 1) := by decide +kernel
abbrev b_M_weakest : ByteArray := prog_7_method_55_code
abbrev y_M_weakest : MethodName := ⟨"OldBeamsModel", "weakest", "(I)I"⟩
theorem d_M_weakest_0 : decode b_M_weakest 0 = .ok (.iload_n 1, 1) := by decide +kernel
theorem d_M_weakest_1 : decode b_M_weakest 1 = .ok (.invokestatic 151, 3) := by decide +kernel
theorem d_M_weakest_4 : decode b_M_weakest 4 = .ok (.ifCond .ne 6, 3) := by decide +kernel
theorem d_M_weakest_7 : decode b_M_weakest 7 = .ok (.ldc 143, 2) := by decide +kernel
theorem d_M_weakest_9 : decode b_M_weakest 9 = .ok (.ireturn, 1) := by decide +kernel
theorem d_M_weakest_10 : decode b_M_weakest 10 = .ok (.aload_n 0, 1) := by decide +kernel
theorem d_M_weakest_11 : decode b_M_weakest 11 = .ok (.invokevirtual 161, 3) := by decide +kernel
theorem d_M_weakest_14 : decode b_M_weakest 14 = .ok (.ldc 156, 2) := by decide +kernel
theorem d_M_weakest_16 : decode b_M_weakest 16 = .ok (.istore_n 2, 1) := by decide +kernel
theorem d_M_weakest_17 : decode b_M_weakest 17 = .ok (.lconst 0, 1) := by decide +kernel
theorem d_M_weakest_18 : decode b_M_weakest 18 = .ok (.lstore_n 3, 1) := by decide +kernel
theorem d_M_weakest_19 : decode b_M_weakest 19 = .ok (.lconst 1, 1) := by decide +kernel
theorem d_M_weakest_20 : decode b_M_weakest 20 = .ok (.lstore 5, 2) := by decide +kernel
theorem d_M_weakest_22 : decode b_M_weakest 22 = .ok (.iconst 0, 1) := by decide +kernel
theorem d_M_weakest_23 : decode b_M_weakest 23 = .ok (.istore 7, 2) := by decide +kernel
theorem d_M_weakest_25 : decode b_M_weakest 25 = .ok (.iload 7, 2) := by decide +kernel
theorem d_M_weakest_27 : decode b_M_weakest 27 = .ok (.aload_n 0, 1) := by decide +kernel
theorem d_M_weakest_28 : decode b_M_weakest 28 = .ok (.getfield 144, 3) := by decide +kernel
theorem d_M_weakest_31 : decode b_M_weakest 31 = .ok (.if_icmp .ge 63, 3) := by decide +kernel
theorem d_M_weakest_34 : decode b_M_weakest 34 = .ok (.aload_n 0, 1) := by decide +kernel
theorem d_M_weakest_35 : decode b_M_weakest 35 = .ok (.getfield 74, 3) := by decide +kernel
theorem d_M_weakest_38 : decode b_M_weakest 38 = .ok (.iload 7, 2) := by decide +kernel
theorem d_M_weakest_40 : decode b_M_weakest 40 = .ok (.baload, 1) := by decide +kernel
theorem d_M_weakest_41 : decode b_M_weakest 41 = .ok (.ifCond .ne 47, 3) := by decide +kernel
theorem d_M_weakest_44 : decode b_M_weakest 44 = .ok (.aload_n 0, 1) := by decide +kernel
theorem d_M_weakest_45 : decode b_M_weakest 45 = .ok (.iload 7, 2) := by decide +kernel
theorem d_M_weakest_47 : decode b_M_weakest 47 = .ok (.iload_n 1, 1) := by decide +kernel
theorem d_M_weakest_48 : decode b_M_weakest 48 = .ok (.invokevirtual 260, 3) := by decide +kernel
theorem d_M_weakest_51 : decode b_M_weakest 51 = .ok (.iload_n 2, 1) := by decide +kernel
theorem d_M_weakest_52 : decode b_M_weakest 52 = .ok (.ldc 156, 2) := by decide +kernel
theorem d_M_weakest_54 : decode b_M_weakest 54 = .ok (.if_icmp .eq 20, 3) := by decide +kernel
theorem d_M_weakest_57 : decode b_M_weakest 57 = .ok (.lload_n 3, 1) := by decide +kernel
theorem d_M_weakest_58 : decode b_M_weakest 58 = .ok (.lload 5, 2) := by decide +kernel
theorem d_M_weakest_60 : decode b_M_weakest 60 = .ok (.aload_n 0, 1) := by decide +kernel
theorem d_M_weakest_61 : decode b_M_weakest 61 = .ok (.getfield 253, 3) := by decide +kernel
theorem d_M_weakest_64 : decode b_M_weakest 64 = .ok (.aload_n 0, 1) := by decide +kernel
theorem d_M_weakest_65 : decode b_M_weakest 65 = .ok (.getfield 257, 3) := by decide +kernel
theorem d_M_weakest_68 : decode b_M_weakest 68 = .ok (.invokestatic 267, 3) := by decide +kernel
theorem d_M_weakest_71 : decode b_M_weakest 71 = .ok (.ifCond .eq 17, 3) := by decide +kernel
theorem d_M_weakest_74 : decode b_M_weakest 74 = .ok (.iload 7, 2) := by decide +kernel
theorem d_M_weakest_76 : decode b_M_weakest 76 = .ok (.istore_n 2, 1) := by decide +kernel
theorem d_M_weakest_77 : decode b_M_weakest 77 = .ok (.aload_n 0, 1) := by decide +kernel
theorem d_M_weakest_78 : decode b_M_weakest 78 = .ok (.getfield 253, 3) := by decide +kernel
theorem d_M_weakest_81 : decode b_M_weakest 81 = .ok (.lstore_n 3, 1) := by decide +kernel
theorem d_M_weakest_82 : decode b_M_weakest 82 = .ok (.aload_n 0, 1) := by decide +kernel
theorem d_M_weakest_83 : decode b_M_weakest 83 = .ok (.getfield 257, 3) := by decide +kernel
theorem d_M_weakest_86 : decode b_M_weakest 86 = .ok (.lstore 5, 2) := by decide +kernel
theorem d_M_weakest_88 : decode b_M_weakest 88 = .ok (.iinc 7 1, 3) := by decide +kernel
theorem d_M_weakest_91 : decode b_M_weakest 91 = .ok (.goto (-66), 3) := by decide +kernel
theorem d_M_weakest_94 : decode b_M_weakest 94 = .ok (.iload_n 2, 1) := by decide +kernel
theorem d_M_weakest_95 : decode b_M_weakest 95 = .ok (.ireturn, 1) := by decide +kernel
abbrev b_M_isAbove : ByteArray := prog_7_method_7_code
abbrev y_M_isAbove : MethodName := ⟨"OldBeamsModel", "isAbove", "(JJJJ)Z"⟩
theorem d_M_isAbove_0 : decode b_M_isAbove 0 = .ok (.lload_n 0, 1) := by decide +kernel
theorem d_M_isAbove_1 : decode b_M_isAbove 1 = .ok (.lstore 8, 2) := by decide +kernel
theorem d_M_isAbove_3 : decode b_M_isAbove 3 = .ok (.lload_n 2, 1) := by decide +kernel
theorem d_M_isAbove_4 : decode b_M_isAbove 4 = .ok (.lstore 10, 2) := by decide +kernel
theorem d_M_isAbove_6 : decode b_M_isAbove 6 = .ok (.lload 4, 2) := by decide +kernel
theorem d_M_isAbove_8 : decode b_M_isAbove 8 = .ok (.lstore 12, 2) := by decide +kernel
theorem d_M_isAbove_10 : decode b_M_isAbove 10 = .ok (.lload 6, 2) := by decide +kernel
theorem d_M_isAbove_12 : decode b_M_isAbove 12 = .ok (.lstore 14, 2) := by decide +kernel
theorem d_M_isAbove_14 : decode b_M_isAbove 14 = .ok (.iconst 0, 1) := by decide +kernel
theorem d_M_isAbove_15 : decode b_M_isAbove 15 = .ok (.istore 16, 2) := by decide +kernel
theorem d_M_isAbove_17 : decode b_M_isAbove 17 = .ok (.lload 8, 2) := by decide +kernel
theorem d_M_isAbove_19 : decode b_M_isAbove 19 = .ok (.lload 10, 2) := by decide +kernel
theorem d_M_isAbove_21 : decode b_M_isAbove 21 = .ok (.ldiv, 1) := by decide +kernel
theorem d_M_isAbove_22 : decode b_M_isAbove 22 = .ok (.lload 12, 2) := by decide +kernel
theorem d_M_isAbove_24 : decode b_M_isAbove 24 = .ok (.lload 14, 2) := by decide +kernel
theorem d_M_isAbove_26 : decode b_M_isAbove 26 = .ok (.ldiv, 1) := by decide +kernel
theorem d_M_isAbove_27 : decode b_M_isAbove 27 = .ok (.lcmp, 1) := by decide +kernel
theorem d_M_isAbove_28 : decode b_M_isAbove 28 = .ok (.ifCond .ne 109, 3) := by decide +kernel
theorem d_M_isAbove_31 : decode b_M_isAbove 31 = .ok (.lload 8, 2) := by decide +kernel
theorem d_M_isAbove_33 : decode b_M_isAbove 33 = .ok (.lload 10, 2) := by decide +kernel
theorem d_M_isAbove_35 : decode b_M_isAbove 35 = .ok (.lrem, 1) := by decide +kernel
theorem d_M_isAbove_36 : decode b_M_isAbove 36 = .ok (.lstore 17, 2) := by decide +kernel
theorem d_M_isAbove_38 : decode b_M_isAbove 38 = .ok (.lload 12, 2) := by decide +kernel
theorem d_M_isAbove_40 : decode b_M_isAbove 40 = .ok (.lload 14, 2) := by decide +kernel
theorem d_M_isAbove_42 : decode b_M_isAbove 42 = .ok (.lrem, 1) := by decide +kernel
theorem d_M_isAbove_43 : decode b_M_isAbove 43 = .ok (.lstore 19, 2) := by decide +kernel
theorem d_M_isAbove_45 : decode b_M_isAbove 45 = .ok (.lload 17, 2) := by decide +kernel
theorem d_M_isAbove_47 : decode b_M_isAbove 47 = .ok (.lconst 0, 1) := by decide +kernel
theorem d_M_isAbove_48 : decode b_M_isAbove 48 = .ok (.lcmp, 1) := by decide +kernel
theorem d_M_isAbove_49 : decode b_M_isAbove 49 = .ok (.ifCond .eq 10, 3) := by decide +kernel
theorem d_M_isAbove_52 : decode b_M_isAbove 52 = .ok (.lload 19, 2) := by decide +kernel
theorem d_M_isAbove_54 : decode b_M_isAbove 54 = .ok (.lconst 0, 1) := by decide +kernel
theorem d_M_isAbove_55 : decode b_M_isAbove 55 = .ok (.lcmp, 1) := by decide +kernel
theorem d_M_isAbove_56 : decode b_M_isAbove 56 = .ok (.ifCond .ne 50, 3) := by decide +kernel
theorem d_M_isAbove_59 : decode b_M_isAbove 59 = .ok (.iload 16, 2) := by decide +kernel
theorem d_M_isAbove_61 : decode b_M_isAbove 61 = .ok (.ifCond .eq 25, 3) := by decide +kernel
theorem d_M_isAbove_64 : decode b_M_isAbove 64 = .ok (.lload 17, 2) := by decide +kernel
theorem d_M_isAbove_66 : decode b_M_isAbove 66 = .ok (.lconst 0, 1) := by decide +kernel
theorem d_M_isAbove_67 : decode b_M_isAbove 67 = .ok (.lcmp, 1) := by decide +kernel
theorem d_M_isAbove_68 : decode b_M_isAbove 68 = .ok (.ifCond .ne 14, 3) := by decide +kernel
theorem d_M_isAbove_71 : decode b_M_isAbove 71 = .ok (.lload 19, 2) := by decide +kernel
theorem d_M_isAbove_73 : decode b_M_isAbove 73 = .ok (.lconst 0, 1) := by decide +kernel
theorem d_M_isAbove_74 : decode b_M_isAbove 74 = .ok (.lcmp, 1) := by decide +kernel
theorem d_M_isAbove_75 : decode b_M_isAbove 75 = .ok (.ifCond .le 7, 3) := by decide +kernel
theorem d_M_isAbove_78 : decode b_M_isAbove 78 = .ok (.iconst 1, 1) := by decide +kernel
theorem d_M_isAbove_79 : decode b_M_isAbove 79 = .ok (.goto 26, 3) := by decide +kernel
theorem d_M_isAbove_82 : decode b_M_isAbove 82 = .ok (.iconst 0, 1) := by decide +kernel
theorem d_M_isAbove_83 : decode b_M_isAbove 83 = .ok (.goto 22, 3) := by decide +kernel
theorem d_M_isAbove_86 : decode b_M_isAbove 86 = .ok (.lload 19, 2) := by decide +kernel
theorem d_M_isAbove_88 : decode b_M_isAbove 88 = .ok (.lconst 0, 1) := by decide +kernel
theorem d_M_isAbove_89 : decode b_M_isAbove 89 = .ok (.lcmp, 1) := by decide +kernel
theorem d_M_isAbove_90 : decode b_M_isAbove 90 = .ok (.ifCond .ne 14, 3) := by decide +kernel
theorem d_M_isAbove_93 : decode b_M_isAbove 93 = .ok (.lload 17, 2) := by decide +kernel
theorem d_M_isAbove_95 : decode b_M_isAbove 95 = .ok (.lconst 0, 1) := by decide +kernel
theorem d_M_isAbove_96 : decode b_M_isAbove 96 = .ok (.lcmp, 1) := by decide +kernel
theorem d_M_isAbove_97 : decode b_M_isAbove 97 = .ok (.ifCond .le 7, 3) := by decide +kernel
theorem d_M_isAbove_100 : decode b_M_isAbove 100 = .ok (.iconst 1, 1) := by decide +kernel
theorem d_M_isAbove_101 : decode b_M_isAbove 101 = .ok (.goto 4, 3) := by decide +kernel
theorem d_M_isAbove_104 : decode b_M_isAbove 104 = .ok (.iconst 0, 1) := by decide +kernel
theorem d_M_isAbove_105 : decode b_M_isAbove 105 = .ok (.ireturn, 1) := by decide +kernel
theorem d_M_isAbove_106 : decode b_M_isAbove 106 = .ok (.lload 10, 2) := by decide +kernel
theorem d_M_isAbove_108 : decode b_M_isAbove 108 = .ok (.lstore 8, 2) := by decide +kernel
theorem d_M_isAbove_110 : decode b_M_isAbove 110 = .ok (.lload 17, 2) := by decide +kernel
theorem d_M_isAbove_112 : decode b_M_isAbove 112 = .ok (.lstore 10, 2) := by decide +kernel
theorem d_M_isAbove_114 : decode b_M_isAbove 114 = .ok (.lload 14, 2) := by decide +kernel
theorem d_M_isAbove_116 : decode b_M_isAbove 116 = .ok (.lstore 12, 2) := by decide +kernel
theorem d_M_isAbove_118 : decode b_M_isAbove 118 = .ok (.lload 19, 2) := by decide +kernel
theorem d_M_isAbove_120 : decode b_M_isAbove 120 = .ok (.lstore 14, 2) := by decide +kernel
theorem d_M_isAbove_122 : decode b_M_isAbove 122 = .ok (.iload 16, 2) := by decide +kernel
theorem d_M_isAbove_124 : decode b_M_isAbove 124 = .ok (.ifCond .ne 7, 3) := by decide +kernel
theorem d_M_isAbove_127 : decode b_M_isAbove 127 = .ok (.iconst 1, 1) := by decide +kernel
theorem d_M_isAbove_128 : decode b_M_isAbove 128 = .ok (.goto 4, 3) := by decide +kernel
theorem d_M_isAbove_131 : decode b_M_isAbove 131 = .ok (.iconst 0, 1) := by decide +kernel
theorem d_M_isAbove_132 : decode b_M_isAbove 132 = .ok (.istore 16, 2) := by decide +kernel
theorem d_M_isAbove_134 : decode b_M_isAbove 134 = .ok (.goto (-117), 3) := by decide +kernel
theorem d_M_isAbove_137 : decode b_M_isAbove 137 = .ok (.lload 8, 2) := by decide +kernel
theorem d_M_isAbove_139 : decode b_M_isAbove 139 = .ok (.lload 10, 2) := by decide +kernel
theorem d_M_isAbove_141 : decode b_M_isAbove 141 = .ok (.ldiv, 1) := by decide +kernel
theorem d_M_isAbove_142 : decode b_M_isAbove 142 = .ok (.lload 12, 2) := by decide +kernel
theorem d_M_isAbove_144 : decode b_M_isAbove 144 = .ok (.lload 14, 2) := by decide +kernel
theorem d_M_isAbove_146 : decode b_M_isAbove 146 = .ok (.ldiv, 1) := by decide +kernel
theorem d_M_isAbove_147 : decode b_M_isAbove 147 = .ok (.lcmp, 1) := by decide +kernel
theorem d_M_isAbove_148 : decode b_M_isAbove 148 = .ok (.ifCond .le 7, 3) := by decide +kernel
theorem d_M_isAbove_151 : decode b_M_isAbove 151 = .ok (.iconst 1, 1) := by decide +kernel
theorem d_M_isAbove_152 : decode b_M_isAbove 152 = .ok (.goto 4, 3) := by decide +kernel
theorem d_M_isAbove_155 : decode b_M_isAbove 155 = .ok (.iconst 0, 1) := by decide +kernel
theorem d_M_isAbove_156 : decode b_M_isAbove 156 = .ok (.iload 16, 2) := by decide +kernel
theorem d_M_isAbove_158 : decode b_M_isAbove 158 = .ok (.if_icmp .eq 7, 3) := by decide +kernel
theorem d_M_isAbove_161 : decode b_M_isAbove 161 = .ok (.iconst 1, 1) := by decide +kernel
theorem d_M_isAbove_162 : decode b_M_isAbove 162 = .ok (.goto 4, 3) := by decide +kernel
theorem d_M_isAbove_165 : decode b_M_isAbove 165 = .ok (.iconst 0, 1) := by decide +kernel
theorem d_M_isAbove_166 : decode b_M_isAbove 166 = .ok (.ireturn, 1) := by decide +kernel
abbrev b_M_chain : ByteArray := prog_7_method_58_code
abbrev y_M_chain : MethodName := ⟨"OldBeamsModel", "chain", "(II)I"⟩
theorem d_M_chain_0 : decode b_M_chain 0 = .ok (.aload_n 0, 1) := by decide +kernel
theorem d_M_chain_1 : decode b_M_chain 1 = .ok (.iload_n 1, 1) := by decide +kernel
theorem d_M_chain_2 : decode b_M_chain 2 = .ok (.iload_n 2, 1) := by decide +kernel
theorem d_M_chain_3 : decode b_M_chain 3 = .ok (.invokestatic 151, 3) := by decide +kernel
theorem d_M_chain_6 : decode b_M_chain 6 = .ok (.invokevirtual 206, 3) := by decide +kernel
theorem d_M_chain_9 : decode b_M_chain 9 = .ok (.istore_n 3, 1) := by decide +kernel
theorem d_M_chain_10 : decode b_M_chain 10 = .ok (.iload_n 3, 1) := by decide +kernel
theorem d_M_chain_11 : decode b_M_chain 11 = .ok (.ifCond .ge 5, 3) := by decide +kernel
theorem d_M_chain_14 : decode b_M_chain 14 = .ok (.iload_n 3, 1) := by decide +kernel
theorem d_M_chain_15 : decode b_M_chain 15 = .ok (.ireturn, 1) := by decide +kernel
theorem d_M_chain_16 : decode b_M_chain 16 = .ok (.aload_n 0, 1) := by decide +kernel
theorem d_M_chain_17 : decode b_M_chain 17 = .ok (.iload_n 1, 1) := by decide +kernel
theorem d_M_chain_18 : decode b_M_chain 18 = .ok (.iload_n 2, 1) := by decide +kernel
theorem d_M_chain_19 : decode b_M_chain 19 = .ok (.invokevirtual 277, 3) := by decide +kernel
theorem d_M_chain_22 : decode b_M_chain 22 = .ok (.aload_n 0, 1) := by decide +kernel
theorem d_M_chain_23 : decode b_M_chain 23 = .ok (.invokevirtual 202, 3) := by decide +kernel
theorem d_M_chain_26 : decode b_M_chain 26 = .ok (.ireturn, 1) := by decide +kernel
abbrev b_M_layFall : ByteArray := prog_7_method_56_code
abbrev y_M_layFall : MethodName := ⟨"OldBeamsModel", "layFall", "(II)V"⟩
theorem d_M_layFall_0 : decode b_M_layFall 0 = .ok (.aload_n 0, 1) := by decide +kernel
theorem d_M_layFall_1 : decode b_M_layFall 1 = .ok (.invokevirtual 193, 3) := by decide +kernel
theorem d_M_layFall_4 : decode b_M_layFall 4 = .ok (.aload_n 0, 1) := by decide +kernel
theorem d_M_layFall_5 : decode b_M_layFall 5 = .ok (.getfield 68, 3) := by decide +kernel
theorem d_M_layFall_8 : decode b_M_layFall 8 = .ok (.iload_n 1, 1) := by decide +kernel
theorem d_M_layFall_9 : decode b_M_layFall 9 = .ok (.iconst 1, 1) := by decide +kernel
theorem d_M_layFall_10 : decode b_M_layFall 10 = .ok (.bastore, 1) := by decide +kernel
theorem d_M_layFall_11 : decode b_M_layFall 11 = .ok (.aload_n 0, 1) := by decide +kernel
theorem d_M_layFall_12 : decode b_M_layFall 12 = .ok (.getfield 114, 3) := by decide +kernel
theorem d_M_layFall_15 : decode b_M_layFall 15 = .ok (.iconst 0, 1) := by decide +kernel
theorem d_M_layFall_16 : decode b_M_layFall 16 = .ok (.iload_n 1, 1) := by decide +kernel
theorem d_M_layFall_17 : decode b_M_layFall 17 = .ok (.iastore, 1) := by decide +kernel
theorem d_M_layFall_18 : decode b_M_layFall 18 = .ok (.aload_n 0, 1) := by decide +kernel
theorem d_M_layFall_19 : decode b_M_layFall 19 = .ok (.iconst 1, 1) := by decide +kernel
theorem d_M_layFall_20 : decode b_M_layFall 20 = .ok (.putfield 271, 3) := by decide +kernel
theorem d_M_layFall_23 : decode b_M_layFall 23 = .ok (.aload_n 0, 1) := by decide +kernel
theorem d_M_layFall_24 : decode b_M_layFall 24 = .ok (.invokevirtual 196, 3) := by decide +kernel
theorem d_M_layFall_27 : decode b_M_layFall 27 = .ok (.aload_n 0, 1) := by decide +kernel
theorem d_M_layFall_28 : decode b_M_layFall 28 = .ok (.iload_n 2, 1) := by decide +kernel
theorem d_M_layFall_29 : decode b_M_layFall 29 = .ok (.invokevirtual 274, 3) := by decide +kernel
theorem d_M_layFall_32 : decode b_M_layFall 32 = .ok (.istore_n 3, 1) := by decide +kernel
theorem d_M_layFall_33 : decode b_M_layFall 33 = .ok (.iload_n 3, 1) := by decide +kernel
theorem d_M_layFall_34 : decode b_M_layFall 34 = .ok (.ldc 156, 2) := by decide +kernel
theorem d_M_layFall_36 : decode b_M_layFall 36 = .ok (.if_icmp .eq 43, 3) := by decide +kernel
theorem d_M_layFall_39 : decode b_M_layFall 39 = .ok (.aload_n 0, 1) := by decide +kernel
theorem d_M_layFall_40 : decode b_M_layFall 40 = .ok (.getfield 68, 3) := by decide +kernel
theorem d_M_layFall_43 : decode b_M_layFall 43 = .ok (.iload_n 3, 1) := by decide +kernel
theorem d_M_layFall_44 : decode b_M_layFall 44 = .ok (.iconst 1, 1) := by decide +kernel
theorem d_M_layFall_45 : decode b_M_layFall 45 = .ok (.bastore, 1) := by decide +kernel
theorem d_M_layFall_46 : decode b_M_layFall 46 = .ok (.aload_n 0, 1) := by decide +kernel
theorem d_M_layFall_47 : decode b_M_layFall 47 = .ok (.getfield 114, 3) := by decide +kernel
theorem d_M_layFall_50 : decode b_M_layFall 50 = .ok (.aload_n 0, 1) := by decide +kernel
theorem d_M_layFall_51 : decode b_M_layFall 51 = .ok (.getfield 271, 3) := by decide +kernel
theorem d_M_layFall_54 : decode b_M_layFall 54 = .ok (.iload_n 3, 1) := by decide +kernel
theorem d_M_layFall_55 : decode b_M_layFall 55 = .ok (.iastore, 1) := by decide +kernel
theorem d_M_layFall_56 : decode b_M_layFall 56 = .ok (.aload_n 0, 1) := by decide +kernel
theorem d_M_layFall_57 : decode b_M_layFall 57 = .ok (.dup, 1) := by decide +kernel
theorem d_M_layFall_58 : decode b_M_layFall 58 = .ok (.getfield 271, 3) := by decide +kernel
theorem d_M_layFall_61 : decode b_M_layFall 61 = .ok (.iconst 1, 1) := by decide +kernel
theorem d_M_layFall_62 : decode b_M_layFall 62 = .ok (.iadd, 1) := by decide +kernel
theorem d_M_layFall_63 : decode b_M_layFall 63 = .ok (.putfield 271, 3) := by decide +kernel
theorem d_M_layFall_66 : decode b_M_layFall 66 = .ok (.aload_n 0, 1) := by decide +kernel
theorem d_M_layFall_67 : decode b_M_layFall 67 = .ok (.invokevirtual 196, 3) := by decide +kernel
theorem d_M_layFall_70 : decode b_M_layFall 70 = .ok (.aload_n 0, 1) := by decide +kernel
theorem d_M_layFall_71 : decode b_M_layFall 71 = .ok (.iload_n 2, 1) := by decide +kernel
theorem d_M_layFall_72 : decode b_M_layFall 72 = .ok (.invokevirtual 274, 3) := by decide +kernel
theorem d_M_layFall_75 : decode b_M_layFall 75 = .ok (.istore_n 3, 1) := by decide +kernel
theorem d_M_layFall_76 : decode b_M_layFall 76 = .ok (.goto (-43), 3) := by decide +kernel
theorem d_M_layFall_79 : decode b_M_layFall 79 = .ok (.return_, 1) := by decide +kernel
abbrev b_M_firstFalling : ByteArray := prog_7_method_57_code
abbrev y_M_firstFalling : MethodName := ⟨"OldBeamsModel", "firstFalling", "(I)I"⟩
theorem d_M_firstFalling_0 : decode b_M_firstFalling 0 = .ok (.iconst 0, 1) := by decide +kernel
theorem d_M_firstFalling_1 : decode b_M_firstFalling 1 = .ok (.istore_n 2, 1) := by decide +kernel
theorem d_M_firstFalling_2 : decode b_M_firstFalling 2 = .ok (.iload_n 2, 1) := by decide +kernel
theorem d_M_firstFalling_3 : decode b_M_firstFalling 3 = .ok (.aload_n 0, 1) := by decide +kernel
theorem d_M_firstFalling_4 : decode b_M_firstFalling 4 = .ok (.getfield 144, 3) := by decide +kernel
theorem d_M_firstFalling_7 : decode b_M_firstFalling 7 = .ok (.if_icmp .ge 36, 3) := by decide +kernel
theorem d_M_firstFalling_10 : decode b_M_firstFalling 10 = .ok (.aload_n 0, 1) := by decide +kernel
theorem d_M_firstFalling_11 : decode b_M_firstFalling 11 = .ok (.getfield 74, 3) := by decide +kernel
theorem d_M_firstFalling_14 : decode b_M_firstFalling 14 = .ok (.iload_n 2, 1) := by decide +kernel
theorem d_M_firstFalling_15 : decode b_M_firstFalling 15 = .ok (.baload, 1) := by decide +kernel
theorem d_M_firstFalling_16 : decode b_M_firstFalling 16 = .ok (.ifCond .ne 21, 3) := by decide +kernel
theorem d_M_firstFalling_19 : decode b_M_firstFalling 19 = .ok (.aload_n 0, 1) := by decide +kernel
theorem d_M_firstFalling_20 : decode b_M_firstFalling 20 = .ok (.iload_n 2, 1) := by decide +kernel
theorem d_M_firstFalling_21 : decode b_M_firstFalling 21 = .ok (.aload_n 0, 1) := by decide +kernel
theorem d_M_firstFalling_22 : decode b_M_firstFalling 22 = .ok (.iload_n 2, 1) := by decide +kernel
theorem d_M_firstFalling_23 : decode b_M_firstFalling 23 = .ok (.iload_n 1, 1) := by decide +kernel
theorem d_M_firstFalling_24 : decode b_M_firstFalling 24 = .ok (.iload_n 1, 1) := by decide +kernel
theorem d_M_firstFalling_25 : decode b_M_firstFalling 25 = .ok (.iconst 0, 1) := by decide +kernel
theorem d_M_firstFalling_26 : decode b_M_firstFalling 26 = .ok (.invokevirtual 245, 3) := by decide +kernel
theorem d_M_firstFalling_29 : decode b_M_firstFalling 29 = .ok (.invokevirtual 210, 3) := by decide +kernel
theorem d_M_firstFalling_32 : decode b_M_firstFalling 32 = .ok (.ifCond .ne 5, 3) := by decide +kernel
theorem d_M_firstFalling_35 : decode b_M_firstFalling 35 = .ok (.iload_n 2, 1) := by decide +kernel
theorem d_M_firstFalling_36 : decode b_M_firstFalling 36 = .ok (.ireturn, 1) := by decide +kernel
theorem d_M_firstFalling_37 : decode b_M_firstFalling 37 = .ok (.iinc 2 1, 3) := by decide +kernel
theorem d_M_firstFalling_40 : decode b_M_firstFalling 40 = .ok (.goto (-38), 3) := by decide +kernel
theorem d_M_firstFalling_43 : decode b_M_firstFalling 43 = .ok (.ldc 156, 2) := by decide +kernel
theorem d_M_firstFalling_45 : decode b_M_firstFalling 45 = .ok (.ireturn, 1) := by decide +kernel
abbrev b_M_chainAt : ByteArray := prog_7_method_59_code
abbrev y_M_chainAt : MethodName := ⟨"OldBeamsModel", "chainAt", "(III)I"⟩
theorem d_M_chainAt_0 : decode b_M_chainAt 0 = .ok (.aload_n 0, 1) := by decide +kernel
theorem d_M_chainAt_1 : decode b_M_chainAt 1 = .ok (.iload_n 1, 1) := by decide +kernel
theorem d_M_chainAt_2 : decode b_M_chainAt 2 = .ok (.iload_n 2, 1) := by decide +kernel
theorem d_M_chainAt_3 : decode b_M_chainAt 3 = .ok (.invokestatic 151, 3) := by decide +kernel
theorem d_M_chainAt_6 : decode b_M_chainAt 6 = .ok (.invokevirtual 206, 3) := by decide +kernel
theorem d_M_chainAt_9 : decode b_M_chainAt 9 = .ok (.istore 4, 2) := by decide +kernel
theorem d_M_chainAt_11 : decode b_M_chainAt 11 = .ok (.iload 4, 2) := by decide +kernel
theorem d_M_chainAt_13 : decode b_M_chainAt 13 = .ok (.ifCond .ge 6, 3) := by decide +kernel
theorem d_M_chainAt_16 : decode b_M_chainAt 16 = .ok (.iload 4, 2) := by decide +kernel
theorem d_M_chainAt_18 : decode b_M_chainAt 18 = .ok (.ireturn, 1) := by decide +kernel
theorem d_M_chainAt_19 : decode b_M_chainAt 19 = .ok (.aload_n 0, 1) := by decide +kernel
theorem d_M_chainAt_20 : decode b_M_chainAt 20 = .ok (.iload_n 1, 1) := by decide +kernel
theorem d_M_chainAt_21 : decode b_M_chainAt 21 = .ok (.iload_n 2, 1) := by decide +kernel
theorem d_M_chainAt_22 : decode b_M_chainAt 22 = .ok (.invokevirtual 277, 3) := by decide +kernel
theorem d_M_chainAt_25 : decode b_M_chainAt 25 = .ok (.iload_n 3, 1) := by decide +kernel
theorem d_M_chainAt_26 : decode b_M_chainAt 26 = .ok (.i2l, 1) := by decide +kernel
theorem d_M_chainAt_27 : decode b_M_chainAt 27 = .ok (.lconst 0, 1) := by decide +kernel
theorem d_M_chainAt_28 : decode b_M_chainAt 28 = .ok (.aload_n 0, 1) := by decide +kernel
theorem d_M_chainAt_29 : decode b_M_chainAt 29 = .ok (.getfield 271, 3) := by decide +kernel
theorem d_M_chainAt_32 : decode b_M_chainAt 32 = .ok (.iconst 1, 1) := by decide +kernel
theorem d_M_chainAt_33 : decode b_M_chainAt 33 = .ok (.isub, 1) := by decide +kernel
theorem d_M_chainAt_34 : decode b_M_chainAt 34 = .ok (.i2l, 1) := by decide +kernel
theorem d_M_chainAt_35 : decode b_M_chainAt 35 = .ok (.invokestatic 126, 3) := by decide +kernel
theorem d_M_chainAt_38 : decode b_M_chainAt 38 = .ok (.ifCond .eq 12, 3) := by decide +kernel
theorem d_M_chainAt_41 : decode b_M_chainAt 41 = .ok (.aload_n 0, 1) := by decide +kernel
theorem d_M_chainAt_42 : decode b_M_chainAt 42 = .ok (.getfield 114, 3) := by decide +kernel
theorem d_M_chainAt_45 : decode b_M_chainAt 45 = .ok (.iload_n 3, 1) := by decide +kernel
theorem d_M_chainAt_46 : decode b_M_chainAt 46 = .ok (.iaload, 1) := by decide +kernel
theorem d_M_chainAt_47 : decode b_M_chainAt 47 = .ok (.goto 5, 3) := by decide +kernel
theorem d_M_chainAt_50 : decode b_M_chainAt 50 = .ok (.ldc 156, 2) := by decide +kernel
theorem d_M_chainAt_52 : decode b_M_chainAt 52 = .ok (.ireturn, 1) := by decide +kernel
abbrev b_M_fewest : ByteArray := prog_7_method_63_code
abbrev y_M_fewest : MethodName := ⟨"OldBeamsModel", "fewest", "(I)I"⟩
theorem d_M_fewest_0 : decode b_M_fewest 0 = .ok (.iload_n 1, 1) := by decide +kernel
theorem d_M_fewest_1 : decode b_M_fewest 1 = .ok (.invokestatic 151, 3) := by decide +kernel
theorem d_M_fewest_4 : decode b_M_fewest 4 = .ok (.ifCond .ne 6, 3) := by decide +kernel
theorem d_M_fewest_7 : decode b_M_fewest 7 = .ok (.ldc 143, 2) := by decide +kernel
theorem d_M_fewest_9 : decode b_M_fewest 9 = .ok (.ireturn, 1) := by decide +kernel
theorem d_M_fewest_10 : decode b_M_fewest 10 = .ok (.aload_n 0, 1) := by decide +kernel
theorem d_M_fewest_11 : decode b_M_fewest 11 = .ok (.iload_n 1, 1) := by decide +kernel
theorem d_M_fewest_12 : decode b_M_fewest 12 = .ok (.invokevirtual 286, 3) := by decide +kernel
theorem d_M_fewest_15 : decode b_M_fewest 15 = .ok (.istore_n 2, 1) := by decide +kernel
theorem d_M_fewest_16 : decode b_M_fewest 16 = .ok (.iload_n 2, 1) := by decide +kernel
theorem d_M_fewest_17 : decode b_M_fewest 17 = .ok (.ldc 156, 2) := by decide +kernel
theorem d_M_fewest_19 : decode b_M_fewest 19 = .ok (.if_icmp .ne 8, 3) := by decide +kernel
theorem d_M_fewest_22 : decode b_M_fewest 22 = .ok (.ldc 156, 2) := by decide +kernel
theorem d_M_fewest_24 : decode b_M_fewest 24 = .ok (.goto 7, 3) := by decide +kernel
theorem d_M_fewest_27 : decode b_M_fewest 27 = .ok (.iload_n 2, 1) := by decide +kernel
theorem d_M_fewest_28 : decode b_M_fewest 28 = .ok (.invokestatic 280, 3) := by decide +kernel
theorem d_M_fewest_31 : decode b_M_fewest 31 = .ok (.ireturn, 1) := by decide +kernel
abbrev b_M_bestProps : ByteArray := prog_7_method_62_code
abbrev y_M_bestProps : MethodName := ⟨"OldBeamsModel", "bestProps", "(I)I"⟩
theorem d_M_bestProps_0 : decode b_M_bestProps 0 = .ok (.ldc 156, 2) := by decide +kernel
theorem d_M_bestProps_2 : decode b_M_bestProps 2 = .ok (.istore_n 2, 1) := by decide +kernel
theorem d_M_bestProps_3 : decode b_M_bestProps 3 = .ok (.iconst 0, 1) := by decide +kernel
theorem d_M_bestProps_4 : decode b_M_bestProps 4 = .ok (.istore_n 3, 1) := by decide +kernel
theorem d_M_bestProps_5 : decode b_M_bestProps 5 = .ok (.iload_n 3, 1) := by decide +kernel
theorem d_M_bestProps_6 : decode b_M_bestProps 6 = .ok (.iconst 1, 1) := by decide +kernel
theorem d_M_bestProps_7 : decode b_M_bestProps 7 = .ok (.aload_n 0, 1) := by decide +kernel
theorem d_M_bestProps_8 : decode b_M_bestProps 8 = .ok (.getfield 173, 3) := by decide +kernel
theorem d_M_bestProps_11 : decode b_M_bestProps 11 = .ok (.ishl, 1) := by decide +kernel
theorem d_M_bestProps_12 : decode b_M_bestProps 12 = .ok (.if_icmp .ge 121, 3) := by decide +kernel
theorem d_M_bestProps_15 : decode b_M_bestProps 15 = .ok (.iload_n 2, 1) := by decide +kernel
theorem d_M_bestProps_16 : decode b_M_bestProps 16 = .ok (.ldc 156, 2) := by decide +kernel
theorem d_M_bestProps_18 : decode b_M_bestProps 18 = .ok (.if_icmp .eq 33, 3) := by decide +kernel
theorem d_M_bestProps_21 : decode b_M_bestProps 21 = .ok (.iload_n 3, 1) := by decide +kernel
theorem d_M_bestProps_22 : decode b_M_bestProps 22 = .ok (.invokestatic 280, 3) := by decide +kernel
theorem d_M_bestProps_25 : decode b_M_bestProps 25 = .ok (.iload_n 2, 1) := by decide +kernel
theorem d_M_bestProps_26 : decode b_M_bestProps 26 = .ok (.invokestatic 280, 3) := by decide +kernel
theorem d_M_bestProps_29 : decode b_M_bestProps 29 = .ok (.if_icmp .lt 22, 3) := by decide +kernel
theorem d_M_bestProps_32 : decode b_M_bestProps 32 = .ok (.iload_n 3, 1) := by decide +kernel
theorem d_M_bestProps_33 : decode b_M_bestProps 33 = .ok (.invokestatic 280, 3) := by decide +kernel
theorem d_M_bestProps_36 : decode b_M_bestProps 36 = .ok (.iload_n 2, 1) := by decide +kernel
theorem d_M_bestProps_37 : decode b_M_bestProps 37 = .ok (.invokestatic 280, 3) := by decide +kernel
theorem d_M_bestProps_40 : decode b_M_bestProps 40 = .ok (.if_icmp .ne 15, 3) := by decide +kernel
theorem d_M_bestProps_43 : decode b_M_bestProps 43 = .ok (.iload_n 3, 1) := by decide +kernel
theorem d_M_bestProps_44 : decode b_M_bestProps 44 = .ok (.iload_n 2, 1) := by decide +kernel
theorem d_M_bestProps_45 : decode b_M_bestProps 45 = .ok (.invokestatic 283, 3) := by decide +kernel
theorem d_M_bestProps_48 : decode b_M_bestProps 48 = .ok (.ifCond .eq 7, 3) := by decide +kernel
theorem d_M_bestProps_51 : decode b_M_bestProps 51 = .ok (.iconst 1, 1) := by decide +kernel
theorem d_M_bestProps_52 : decode b_M_bestProps 52 = .ok (.goto 4, 3) := by decide +kernel
theorem d_M_bestProps_55 : decode b_M_bestProps 55 = .ok (.iconst 0, 1) := by decide +kernel
theorem d_M_bestProps_56 : decode b_M_bestProps 56 = .ok (.istore 4, 2) := by decide +kernel
theorem d_M_bestProps_58 : decode b_M_bestProps 58 = .ok (.aload_n 0, 1) := by decide +kernel
theorem d_M_bestProps_59 : decode b_M_bestProps 59 = .ok (.invokevirtual 193, 3) := by decide +kernel
theorem d_M_bestProps_62 : decode b_M_bestProps 62 = .ok (.iconst 0, 1) := by decide +kernel
theorem d_M_bestProps_63 : decode b_M_bestProps 63 = .ok (.istore 5, 2) := by decide +kernel
theorem d_M_bestProps_65 : decode b_M_bestProps 65 = .ok (.iload 5, 2) := by decide +kernel
theorem d_M_bestProps_67 : decode b_M_bestProps 67 = .ok (.aload_n 0, 1) := by decide +kernel
theorem d_M_bestProps_68 : decode b_M_bestProps 68 = .ok (.getfield 173, 3) := by decide +kernel
theorem d_M_bestProps_71 : decode b_M_bestProps 71 = .ok (.if_icmp .ge 31, 3) := by decide +kernel
theorem d_M_bestProps_74 : decode b_M_bestProps 74 = .ok (.aload_n 0, 1) := by decide +kernel
theorem d_M_bestProps_75 : decode b_M_bestProps 75 = .ok (.getfield 71, 3) := by decide +kernel
theorem d_M_bestProps_78 : decode b_M_bestProps 78 = .ok (.iload 5, 2) := by decide +kernel
theorem d_M_bestProps_80 : decode b_M_bestProps 80 = .ok (.iload_n 3, 1) := by decide +kernel
theorem d_M_bestProps_81 : decode b_M_bestProps 81 = .ok (.iload 5, 2) := by decide +kernel
theorem d_M_bestProps_83 : decode b_M_bestProps 83 = .ok (.ishr, 1) := by decide +kernel
theorem d_M_bestProps_84 : decode b_M_bestProps 84 = .ok (.iconst 1, 1) := by decide +kernel
theorem d_M_bestProps_85 : decode b_M_bestProps 85 = .ok (.iand, 1) := by decide +kernel
theorem d_M_bestProps_86 : decode b_M_bestProps 86 = .ok (.iconst 1, 1) := by decide +kernel
theorem d_M_bestProps_87 : decode b_M_bestProps 87 = .ok (.if_icmp .ne 7, 3) := by decide +kernel
theorem d_M_bestProps_90 : decode b_M_bestProps 90 = .ok (.iconst 1, 1) := by decide +kernel
theorem d_M_bestProps_91 : decode b_M_bestProps 91 = .ok (.goto 4, 3) := by decide +kernel
theorem d_M_bestProps_94 : decode b_M_bestProps 94 = .ok (.iconst 0, 1) := by decide +kernel
theorem d_M_bestProps_95 : decode b_M_bestProps 95 = .ok (.bastore, 1) := by decide +kernel
theorem d_M_bestProps_96 : decode b_M_bestProps 96 = .ok (.iinc 5 1, 3) := by decide +kernel
theorem d_M_bestProps_99 : decode b_M_bestProps 99 = .ok (.goto (-34), 3) := by decide +kernel
theorem d_M_bestProps_102 : decode b_M_bestProps 102 = .ok (.iload 4, 2) := by decide +kernel
theorem d_M_bestProps_104 : decode b_M_bestProps 104 = .ok (.ifCond .eq 23, 3) := by decide +kernel
theorem d_M_bestProps_107 : decode b_M_bestProps 107 = .ok (.aload_n 0, 1) := by decide +kernel
theorem d_M_bestProps_108 : decode b_M_bestProps 108 = .ok (.invokevirtual 196, 3) := by decide +kernel
theorem d_M_bestProps_111 : decode b_M_bestProps 111 = .ok (.aload_n 0, 1) := by decide +kernel
theorem d_M_bestProps_112 : decode b_M_bestProps 112 = .ok (.iload_n 1, 1) := by decide +kernel
theorem d_M_bestProps_113 : decode b_M_bestProps 113 = .ok (.iload_n 1, 1) := by decide +kernel
theorem d_M_bestProps_114 : decode b_M_bestProps 114 = .ok (.iconst 0, 1) := by decide +kernel
theorem d_M_bestProps_115 : decode b_M_bestProps 115 = .ok (.invokevirtual 249, 3) := by decide +kernel
theorem d_M_bestProps_118 : decode b_M_bestProps 118 = .ok (.ifCond .eq 7, 3) := by decide +kernel
theorem d_M_bestProps_121 : decode b_M_bestProps 121 = .ok (.iload_n 3, 1) := by decide +kernel
theorem d_M_bestProps_122 : decode b_M_bestProps 122 = .ok (.goto 4, 3) := by decide +kernel
theorem d_M_bestProps_125 : decode b_M_bestProps 125 = .ok (.iload_n 2, 1) := by decide +kernel
theorem d_M_bestProps_126 : decode b_M_bestProps 126 = .ok (.istore_n 2, 1) := by decide +kernel
theorem d_M_bestProps_127 : decode b_M_bestProps 127 = .ok (.iinc 3 1, 3) := by decide +kernel
theorem d_M_bestProps_130 : decode b_M_bestProps 130 = .ok (.goto (-125), 3) := by decide +kernel
theorem d_M_bestProps_133 : decode b_M_bestProps 133 = .ok (.iload_n 2, 1) := by decide +kernel
theorem d_M_bestProps_134 : decode b_M_bestProps 134 = .ok (.ireturn, 1) := by decide +kernel
abbrev b_M_ones : ByteArray := prog_7_method_60_code
abbrev y_M_ones : MethodName := ⟨"OldBeamsModel", "ones", "(I)I"⟩
theorem d_M_ones_0 : decode b_M_ones 0 = .ok (.iconst 0, 1) := by decide +kernel
theorem d_M_ones_1 : decode b_M_ones 1 = .ok (.istore_n 1, 1) := by decide +kernel
theorem d_M_ones_2 : decode b_M_ones 2 = .ok (.iconst 0, 1) := by decide +kernel
theorem d_M_ones_3 : decode b_M_ones 3 = .ok (.istore_n 2, 1) := by decide +kernel
theorem d_M_ones_4 : decode b_M_ones 4 = .ok (.iload_n 2, 1) := by decide +kernel
theorem d_M_ones_5 : decode b_M_ones 5 = .ok (.bipush 8, 2) := by decide +kernel
theorem d_M_ones_7 : decode b_M_ones 7 = .ok (.if_icmp .ge 17, 3) := by decide +kernel
theorem d_M_ones_10 : decode b_M_ones 10 = .ok (.iload_n 1, 1) := by decide +kernel
theorem d_M_ones_11 : decode b_M_ones 11 = .ok (.iload_n 0, 1) := by decide +kernel
theorem d_M_ones_12 : decode b_M_ones 12 = .ok (.iload_n 2, 1) := by decide +kernel
theorem d_M_ones_13 : decode b_M_ones 13 = .ok (.ishr, 1) := by decide +kernel
theorem d_M_ones_14 : decode b_M_ones 14 = .ok (.iconst 1, 1) := by decide +kernel
theorem d_M_ones_15 : decode b_M_ones 15 = .ok (.iand, 1) := by decide +kernel
theorem d_M_ones_16 : decode b_M_ones 16 = .ok (.iadd, 1) := by decide +kernel
theorem d_M_ones_17 : decode b_M_ones 17 = .ok (.istore_n 1, 1) := by decide +kernel
theorem d_M_ones_18 : decode b_M_ones 18 = .ok (.iinc 2 1, 3) := by decide +kernel
theorem d_M_ones_21 : decode b_M_ones 21 = .ok (.goto (-17), 3) := by decide +kernel
theorem d_M_ones_24 : decode b_M_ones 24 = .ok (.iload_n 1, 1) := by decide +kernel
theorem d_M_ones_25 : decode b_M_ones 25 = .ok (.ireturn, 1) := by decide +kernel
abbrev b_M_isFirst : ByteArray := prog_7_method_61_code
abbrev y_M_isFirst : MethodName := ⟨"OldBeamsModel", "isFirst", "(II)Z"⟩
theorem d_M_isFirst_0 : decode b_M_isFirst 0 = .ok (.iload_n 0, 1) := by decide +kernel
theorem d_M_isFirst_1 : decode b_M_isFirst 1 = .ok (.iload_n 1, 1) := by decide +kernel
theorem d_M_isFirst_2 : decode b_M_isFirst 2 = .ok (.ixor, 1) := by decide +kernel
theorem d_M_isFirst_3 : decode b_M_isFirst 3 = .ok (.istore_n 2, 1) := by decide +kernel
theorem d_M_isFirst_4 : decode b_M_isFirst 4 = .ok (.iload_n 0, 1) := by decide +kernel
theorem d_M_isFirst_5 : decode b_M_isFirst 5 = .ok (.iload_n 2, 1) := by decide +kernel
theorem d_M_isFirst_6 : decode b_M_isFirst 6 = .ok (.iand, 1) := by decide +kernel
theorem d_M_isFirst_7 : decode b_M_isFirst 7 = .ok (.iload_n 2, 1) := by decide +kernel
theorem d_M_isFirst_8 : decode b_M_isFirst 8 = .ok (.ineg, 1) := by decide +kernel
theorem d_M_isFirst_9 : decode b_M_isFirst 9 = .ok (.iand, 1) := by decide +kernel
theorem d_M_isFirst_10 : decode b_M_isFirst 10 = .ok (.ifCond .eq 7, 3) := by decide +kernel
theorem d_M_isFirst_13 : decode b_M_isFirst 13 = .ok (.iconst 1, 1) := by decide +kernel
theorem d_M_isFirst_14 : decode b_M_isFirst 14 = .ok (.goto 4, 3) := by decide +kernel
theorem d_M_isFirst_17 : decode b_M_isFirst 17 = .ok (.iconst 0, 1) := by decide +kernel
theorem d_M_isFirst_18 : decode b_M_isFirst 18 = .ok (.ireturn, 1) := by decide +kernel
abbrev b_M_needed : ByteArray := prog_7_method_64_code
abbrev y_M_needed : MethodName := ⟨"OldBeamsModel", "needed", "(II)I"⟩
theorem d_M_needed_0 : decode b_M_needed 0 = .ok (.iload_n 1, 1) := by decide +kernel
theorem d_M_needed_1 : decode b_M_needed 1 = .ok (.invokestatic 151, 3) := by decide +kernel
theorem d_M_needed_4 : decode b_M_needed 4 = .ok (.ifCond .ne 6, 3) := by decide +kernel
theorem d_M_needed_7 : decode b_M_needed 7 = .ok (.ldc 143, 2) := by decide +kernel
theorem d_M_needed_9 : decode b_M_needed 9 = .ok (.ireturn, 1) := by decide +kernel
theorem d_M_needed_10 : decode b_M_needed 10 = .ok (.aload_n 0, 1) := by decide +kernel
theorem d_M_needed_11 : decode b_M_needed 11 = .ok (.iload_n 1, 1) := by decide +kernel
theorem d_M_needed_12 : decode b_M_needed 12 = .ok (.invokevirtual 286, 3) := by decide +kernel
theorem d_M_needed_15 : decode b_M_needed 15 = .ok (.istore_n 3, 1) := by decide +kernel
theorem d_M_needed_16 : decode b_M_needed 16 = .ok (.iload_n 2, 1) := by decide +kernel
theorem d_M_needed_17 : decode b_M_needed 17 = .ok (.istore 4, 2) := by decide +kernel
theorem d_M_needed_19 : decode b_M_needed 19 = .ok (.iconst 0, 1) := by decide +kernel
theorem d_M_needed_20 : decode b_M_needed 20 = .ok (.istore 5, 2) := by decide +kernel
theorem d_M_needed_22 : decode b_M_needed 22 = .ok (.iload 5, 2) := by decide +kernel
theorem d_M_needed_24 : decode b_M_needed 24 = .ok (.aload_n 0, 1) := by decide +kernel
theorem d_M_needed_25 : decode b_M_needed 25 = .ok (.getfield 173, 3) := by decide +kernel
theorem d_M_needed_28 : decode b_M_needed 28 = .ok (.if_icmp .ge 40, 3) := by decide +kernel
theorem d_M_needed_31 : decode b_M_needed 31 = .ok (.iload_n 3, 1) := by decide +kernel
theorem d_M_needed_32 : decode b_M_needed 32 = .ok (.ldc 156, 2) := by decide +kernel
theorem d_M_needed_34 : decode b_M_needed 34 = .ok (.if_icmp .eq 34, 3) := by decide +kernel
theorem d_M_needed_37 : decode b_M_needed 37 = .ok (.iload_n 2, 1) := by decide +kernel
theorem d_M_needed_38 : decode b_M_needed 38 = .ok (.ifCond .lt 30, 3) := by decide +kernel
theorem d_M_needed_41 : decode b_M_needed 41 = .ok (.iload_n 3, 1) := by decide +kernel
theorem d_M_needed_42 : decode b_M_needed 42 = .ok (.iload 5, 2) := by decide +kernel
theorem d_M_needed_44 : decode b_M_needed 44 = .ok (.ishr, 1) := by decide +kernel
theorem d_M_needed_45 : decode b_M_needed 45 = .ok (.iconst 1, 1) := by decide +kernel
theorem d_M_needed_46 : decode b_M_needed 46 = .ok (.iand, 1) := by decide +kernel
theorem d_M_needed_47 : decode b_M_needed 47 = .ok (.iconst 1, 1) := by decide +kernel
theorem d_M_needed_48 : decode b_M_needed 48 = .ok (.if_icmp .ne 14, 3) := by decide +kernel
theorem d_M_needed_51 : decode b_M_needed 51 = .ok (.iload 4, 2) := by decide +kernel
theorem d_M_needed_53 : decode b_M_needed 53 = .ok (.ifCond .ne 6, 3) := by decide +kernel
theorem d_M_needed_56 : decode b_M_needed 56 = .ok (.iload 5, 2) := by decide +kernel
theorem d_M_needed_58 : decode b_M_needed 58 = .ok (.ireturn, 1) := by decide +kernel
theorem d_M_needed_59 : decode b_M_needed 59 = .ok (.iinc 4 (-1), 3) := by decide +kernel
theorem d_M_needed_62 : decode b_M_needed 62 = .ok (.iinc 5 1, 3) := by decide +kernel
theorem d_M_needed_65 : decode b_M_needed 65 = .ok (.goto (-43), 3) := by decide +kernel
theorem d_M_needed_68 : decode b_M_needed 68 = .ok (.ldc 156, 2) := by decide +kernel
theorem d_M_needed_70 : decode b_M_needed 70 = .ok (.ireturn, 1) := by decide +kernel
abbrev b_M_price : ByteArray := prog_7_method_65_code
abbrev y_M_price : MethodName := ⟨"OldBeamsModel", "price", "(II)I"⟩
theorem d_M_price_0 : decode b_M_price 0 = .ok (.iload_n 1, 1) := by decide +kernel
theorem d_M_price_1 : decode b_M_price 1 = .ok (.i2l, 1) := by decide +kernel
theorem d_M_price_2 : decode b_M_price 2 = .ok (.lconst 0, 1) := by decide +kernel
theorem d_M_price_3 : decode b_M_price 3 = .ok (.lconst 1, 1) := by decide +kernel
theorem d_M_price_4 : decode b_M_price 4 = .ok (.invokestatic 126, 3) := by decide +kernel
theorem d_M_price_7 : decode b_M_price 7 = .ok (.ifCond .eq 15, 3) := by decide +kernel
theorem d_M_price_10 : decode b_M_price 10 = .ok (.iload_n 2, 1) := by decide +kernel
theorem d_M_price_11 : decode b_M_price 11 = .ok (.i2l, 1) := by decide +kernel
theorem d_M_price_12 : decode b_M_price 12 = .ok (.lconst 0, 1) := by decide +kernel
theorem d_M_price_13 : decode b_M_price 13 = .ok (.ldc2_w 168, 3) := by decide +kernel
theorem d_M_price_16 : decode b_M_price 16 = .ok (.invokestatic 126, 3) := by decide +kernel
theorem d_M_price_19 : decode b_M_price 19 = .ok (.ifCond .ne 6, 3) := by decide +kernel
theorem d_M_price_22 : decode b_M_price 22 = .ok (.ldc 143, 2) := by decide +kernel
theorem d_M_price_24 : decode b_M_price 24 = .ok (.ireturn, 1) := by decide +kernel
theorem d_M_price_25 : decode b_M_price 25 = .ok (.iload_n 1, 1) := by decide +kernel
theorem d_M_price_26 : decode b_M_price 26 = .ok (.ifCond .ne 10, 3) := by decide +kernel
theorem d_M_price_29 : decode b_M_price 29 = .ok (.aload_n 0, 1) := by decide +kernel
theorem d_M_price_30 : decode b_M_price 30 = .ok (.getfield 117, 3) := by decide +kernel
theorem d_M_price_33 : decode b_M_price 33 = .ok (.goto 7, 3) := by decide +kernel
theorem d_M_price_36 : decode b_M_price 36 = .ok (.aload_n 0, 1) := by decide +kernel
theorem d_M_price_37 : decode b_M_price 37 = .ok (.getfield 121, 3) := by decide +kernel
theorem d_M_price_40 : decode b_M_price 40 = .ok (.istore_n 3, 1) := by decide +kernel
theorem d_M_price_41 : decode b_M_price 41 = .ok (.aload_n 0, 1) := by decide +kernel
theorem d_M_price_42 : decode b_M_price 42 = .ok (.iload_n 1, 1) := by decide +kernel
theorem d_M_price_43 : decode b_M_price 43 = .ok (.ifCond .ne 7, 3) := by decide +kernel
theorem d_M_price_46 : decode b_M_price 46 = .ok (.iload_n 2, 1) := by decide +kernel
theorem d_M_price_47 : decode b_M_price 47 = .ok (.goto 7, 3) := by decide +kernel
theorem d_M_price_50 : decode b_M_price 50 = .ok (.aload_n 0, 1) := by decide +kernel
theorem d_M_price_51 : decode b_M_price 51 = .ok (.getfield 117, 3) := by decide +kernel
theorem d_M_price_54 : decode b_M_price 54 = .ok (.putfield 117, 3) := by decide +kernel
theorem d_M_price_57 : decode b_M_price 57 = .ok (.aload_n 0, 1) := by decide +kernel
theorem d_M_price_58 : decode b_M_price 58 = .ok (.iload_n 1, 1) := by decide +kernel
theorem d_M_price_59 : decode b_M_price 59 = .ok (.iconst 1, 1) := by decide +kernel
theorem d_M_price_60 : decode b_M_price 60 = .ok (.if_icmp .ne 7, 3) := by decide +kernel
theorem d_M_price_63 : decode b_M_price 63 = .ok (.iload_n 2, 1) := by decide +kernel
theorem d_M_price_64 : decode b_M_price 64 = .ok (.goto 7, 3) := by decide +kernel
theorem d_M_price_67 : decode b_M_price 67 = .ok (.aload_n 0, 1) := by decide +kernel
theorem d_M_price_68 : decode b_M_price 68 = .ok (.getfield 121, 3) := by decide +kernel
theorem d_M_price_71 : decode b_M_price 71 = .ok (.putfield 121, 3) := by decide +kernel
theorem d_M_price_74 : decode b_M_price 74 = .ok (.iload_n 3, 1) := by decide +kernel
theorem d_M_price_75 : decode b_M_price 75 = .ok (.ireturn, 1) := by decide +kernel
abbrev b_M_mean : ByteArray := prog_7_method_67_code
abbrev y_M_mean : MethodName := ⟨"OldBeamsModel", "mean", "(IIZ)J"⟩
theorem d_M_mean_0 : decode b_M_mean 0 = .ok (.aload_n 0, 1) := by decide +kernel
theorem d_M_mean_1 : decode b_M_mean 1 = .ok (.iload_n 1, 1) := by decide +kernel
theorem d_M_mean_2 : decode b_M_mean 2 = .ok (.iload_n 2, 1) := by decide +kernel
theorem d_M_mean_3 : decode b_M_mean 3 = .ok (.invokestatic 151, 3) := by decide +kernel
theorem d_M_mean_6 : decode b_M_mean 6 = .ok (.invokevirtual 206, 3) := by decide +kernel
theorem d_M_mean_9 : decode b_M_mean 9 = .ok (.istore 4, 2) := by decide +kernel
theorem d_M_mean_11 : decode b_M_mean 11 = .ok (.iload 4, 2) := by decide +kernel
theorem d_M_mean_13 : decode b_M_mean 13 = .ok (.ifCond .ge 7, 3) := by decide +kernel
theorem d_M_mean_16 : decode b_M_mean 16 = .ok (.iload 4, 2) := by decide +kernel
theorem d_M_mean_18 : decode b_M_mean 18 = .ok (.i2l, 1) := by decide +kernel
theorem d_M_mean_19 : decode b_M_mean 19 = .ok (.lreturn, 1) := by decide +kernel
theorem d_M_mean_20 : decode b_M_mean 20 = .ok (.aload_n 0, 1) := by decide +kernel
theorem d_M_mean_21 : decode b_M_mean 21 = .ok (.iload_n 1, 1) := by decide +kernel
theorem d_M_mean_22 : decode b_M_mean 22 = .ok (.iload_n 2, 1) := by decide +kernel
theorem d_M_mean_23 : decode b_M_mean 23 = .ok (.invokevirtual 260, 3) := by decide +kernel
theorem d_M_mean_26 : decode b_M_mean 26 = .ok (.aload_n 0, 1) := by decide +kernel
theorem d_M_mean_27 : decode b_M_mean 27 = .ok (.aload_n 0, 1) := by decide +kernel
theorem d_M_mean_28 : decode b_M_mean 28 = .ok (.getfield 257, 3) := by decide +kernel
theorem d_M_mean_31 : decode b_M_mean 31 = .ok (.aload_n 0, 1) := by decide +kernel
theorem d_M_mean_32 : decode b_M_mean 32 = .ok (.getfield 253, 3) := by decide +kernel
theorem d_M_mean_35 : decode b_M_mean 35 = .ok (.invokevirtual 289, 3) := by decide +kernel
theorem d_M_mean_38 : decode b_M_mean 38 = .ok (.aload_n 0, 1) := by decide +kernel
theorem d_M_mean_39 : decode b_M_mean 39 = .ok (.getfield 257, 3) := by decide +kernel
theorem d_M_mean_42 : decode b_M_mean 42 = .ok (.iload_n 3, 1) := by decide +kernel
theorem d_M_mean_43 : decode b_M_mean 43 = .ok (.invokestatic 263, 3) := by decide +kernel
theorem d_M_mean_46 : decode b_M_mean 46 = .ok (.lreturn, 1) := by decide +kernel
abbrev b_M_least : ByteArray := prog_7_method_66_code
abbrev y_M_least : MethodName := ⟨"OldBeamsModel", "least", "(JJ)J"⟩
theorem d_M_least_0 : decode b_M_least 0 = .ok (.aload_n 0, 1) := by decide +kernel
theorem d_M_least_1 : decode b_M_least 1 = .ok (.getfield 117, 3) := by decide +kernel
theorem d_M_least_4 : decode b_M_least 4 = .ok (.i2l, 1) := by decide +kernel
theorem d_M_least_5 : decode b_M_least 5 = .ok (.lload_n 1, 1) := by decide +kernel
theorem d_M_least_6 : decode b_M_least 6 = .ok (.lmul, 1) := by decide +kernel
theorem d_M_least_7 : decode b_M_least 7 = .ok (.lstore 5, 2) := by decide +kernel
theorem d_M_least_9 : decode b_M_least 9 = .ok (.aload_n 0, 1) := by decide +kernel
theorem d_M_least_10 : decode b_M_least 10 = .ok (.getfield 121, 3) := by decide +kernel
theorem d_M_least_13 : decode b_M_least 13 = .ok (.i2l, 1) := by decide +kernel
theorem d_M_least_14 : decode b_M_least 14 = .ok (.lload_n 1, 1) := by decide +kernel
theorem d_M_least_15 : decode b_M_least 15 = .ok (.lload_n 3, 1) := by decide +kernel
theorem d_M_least_16 : decode b_M_least 16 = .ok (.lsub, 1) := by decide +kernel
theorem d_M_least_17 : decode b_M_least 17 = .ok (.lmul, 1) := by decide +kernel
theorem d_M_least_18 : decode b_M_least 18 = .ok (.lstore 7, 2) := by decide +kernel
theorem d_M_least_20 : decode b_M_least 20 = .ok (.lload 5, 2) := by decide +kernel
theorem d_M_least_22 : decode b_M_least 22 = .ok (.lload 7, 2) := by decide +kernel
theorem d_M_least_24 : decode b_M_least 24 = .ok (.lcmp, 1) := by decide +kernel
theorem d_M_least_25 : decode b_M_least 25 = .ok (.ifCond .ge 8, 3) := by decide +kernel
theorem d_M_least_28 : decode b_M_least 28 = .ok (.lload 5, 2) := by decide +kernel
theorem d_M_least_30 : decode b_M_least 30 = .ok (.goto 5, 3) := by decide +kernel
theorem d_M_least_33 : decode b_M_least 33 = .ok (.lload 7, 2) := by decide +kernel
theorem d_M_least_35 : decode b_M_least 35 = .ok (.lreturn, 1) := by decide +kernel
abbrev b_M_worth : ByteArray := prog_7_method_69_code
abbrev y_M_worth : MethodName := ⟨"OldBeamsModel", "worth", "(IIIZ)J"⟩
theorem d_M_worth_0 : decode b_M_worth 0 = .ok (.aload_n 0, 1) := by decide +kernel
theorem d_M_worth_1 : decode b_M_worth 1 = .ok (.iload_n 1, 1) := by decide +kernel
theorem d_M_worth_2 : decode b_M_worth 2 = .ok (.invokevirtual 157, 3) := by decide +kernel
theorem d_M_worth_5 : decode b_M_worth 5 = .ok (.ifCond .eq 15, 3) := by decide +kernel
theorem d_M_worth_8 : decode b_M_worth 8 = .ok (.iload_n 2, 1) := by decide +kernel
theorem d_M_worth_9 : decode b_M_worth 9 = .ok (.i2l, 1) := by decide +kernel
theorem d_M_worth_10 : decode b_M_worth 10 = .ok (.lconst 0, 1) := by decide +kernel
theorem d_M_worth_11 : decode b_M_worth 11 = .ok (.ldc2_w 134, 3) := by decide +kernel
theorem d_M_worth_14 : decode b_M_worth 14 = .ok (.invokestatic 126, 3) := by decide +kernel
theorem d_M_worth_17 : decode b_M_worth 17 = .ok (.ifCond .ne 7, 3) := by decide +kernel
theorem d_M_worth_20 : decode b_M_worth 20 = .ok (.ldc2_w 234, 3) := by decide +kernel
theorem d_M_worth_23 : decode b_M_worth 23 = .ok (.lreturn, 1) := by decide +kernel
theorem d_M_worth_24 : decode b_M_worth 24 = .ok (.aload_n 0, 1) := by decide +kernel
theorem d_M_worth_25 : decode b_M_worth 25 = .ok (.iload_n 1, 1) := by decide +kernel
theorem d_M_worth_26 : decode b_M_worth 26 = .ok (.iload_n 3, 1) := by decide +kernel
theorem d_M_worth_27 : decode b_M_worth 27 = .ok (.invokestatic 151, 3) := by decide +kernel
theorem d_M_worth_30 : decode b_M_worth 30 = .ok (.invokevirtual 206, 3) := by decide +kernel
theorem d_M_worth_33 : decode b_M_worth 33 = .ok (.istore 5, 2) := by decide +kernel
theorem d_M_worth_35 : decode b_M_worth 35 = .ok (.iload 5, 2) := by decide +kernel
theorem d_M_worth_37 : decode b_M_worth 37 = .ok (.ifCond .ge 7, 3) := by decide +kernel
theorem d_M_worth_40 : decode b_M_worth 40 = .ok (.iload 5, 2) := by decide +kernel
theorem d_M_worth_42 : decode b_M_worth 42 = .ok (.i2l, 1) := by decide +kernel
theorem d_M_worth_43 : decode b_M_worth 43 = .ok (.lreturn, 1) := by decide +kernel
theorem d_M_worth_44 : decode b_M_worth 44 = .ok (.aload_n 0, 1) := by decide +kernel
theorem d_M_worth_45 : decode b_M_worth 45 = .ok (.iload_n 1, 1) := by decide +kernel
theorem d_M_worth_46 : decode b_M_worth 46 = .ok (.iload_n 3, 1) := by decide +kernel
theorem d_M_worth_47 : decode b_M_worth 47 = .ok (.invokevirtual 260, 3) := by decide +kernel
theorem d_M_worth_50 : decode b_M_worth 50 = .ok (.aload_n 0, 1) := by decide +kernel
theorem d_M_worth_51 : decode b_M_worth 51 = .ok (.iload_n 1, 1) := by decide +kernel
theorem d_M_worth_52 : decode b_M_worth 52 = .ok (.iload_n 2, 1) := by decide +kernel
theorem d_M_worth_53 : decode b_M_worth 53 = .ok (.invokevirtual 292, 3) := by decide +kernel
theorem d_M_worth_56 : decode b_M_worth 56 = .ok (.ldc2_w 222, 3) := by decide +kernel
theorem d_M_worth_59 : decode b_M_worth 59 = .ok (.aload_n 0, 1) := by decide +kernel
theorem d_M_worth_60 : decode b_M_worth 60 = .ok (.getfield 257, 3) := by decide +kernel
theorem d_M_worth_63 : decode b_M_worth 63 = .ok (.lmul, 1) := by decide +kernel
theorem d_M_worth_64 : decode b_M_worth 64 = .ok (.iload 4, 2) := by decide +kernel
theorem d_M_worth_66 : decode b_M_worth 66 = .ok (.invokestatic 263, 3) := by decide +kernel
theorem d_M_worth_69 : decode b_M_worth 69 = .ok (.lreturn, 1) := by decide +kernel
abbrev b_M_worthOf : ByteArray := prog_7_method_68_code
abbrev y_M_worthOf : MethodName := ⟨"OldBeamsModel", "worthOf", "(II)J"⟩
theorem d_M_worthOf_0 : decode b_M_worthOf 0 = .ok (.ldc2_w 222, 3) := by decide +kernel
theorem d_M_worthOf_3 : decode b_M_worthOf 3 = .ok (.aload_n 0, 1) := by decide +kernel
theorem d_M_worthOf_4 : decode b_M_worthOf 4 = .ok (.aload_n 0, 1) := by decide +kernel
theorem d_M_worthOf_5 : decode b_M_worthOf 5 = .ok (.getfield 257, 3) := by decide +kernel
theorem d_M_worthOf_8 : decode b_M_worthOf 8 = .ok (.aload_n 0, 1) := by decide +kernel
theorem d_M_worthOf_9 : decode b_M_worthOf 9 = .ok (.getfield 253, 3) := by decide +kernel
theorem d_M_worthOf_12 : decode b_M_worthOf 12 = .ok (.invokevirtual 289, 3) := by decide +kernel
theorem d_M_worthOf_15 : decode b_M_worthOf 15 = .ok (.lmul, 1) := by decide +kernel
theorem d_M_worthOf_16 : decode b_M_worthOf 16 = .ok (.lstore_n 3, 1) := by decide +kernel
theorem d_M_worthOf_17 : decode b_M_worthOf 17 = .ok (.iconst 0, 1) := by decide +kernel
theorem d_M_worthOf_18 : decode b_M_worthOf 18 = .ok (.istore 5, 2) := by decide +kernel
theorem d_M_worthOf_20 : decode b_M_worthOf 20 = .ok (.iload 5, 2) := by decide +kernel
theorem d_M_worthOf_22 : decode b_M_worthOf 22 = .ok (.iconst 2, 1) := by decide +kernel
theorem d_M_worthOf_23 : decode b_M_worthOf 23 = .ok (.if_icmp .ge 90, 3) := by decide +kernel
theorem d_M_worthOf_26 : decode b_M_worthOf 26 = .ok (.lconst 0, 1) := by decide +kernel
theorem d_M_worthOf_27 : decode b_M_worthOf 27 = .ok (.lstore 6, 2) := by decide +kernel
theorem d_M_worthOf_29 : decode b_M_worthOf 29 = .ok (.lconst 0, 1) := by decide +kernel
theorem d_M_worthOf_30 : decode b_M_worthOf 30 = .ok (.lstore 8, 2) := by decide +kernel
theorem d_M_worthOf_32 : decode b_M_worthOf 32 = .ok (.iconst 0, 1) := by decide +kernel
theorem d_M_worthOf_33 : decode b_M_worthOf 33 = .ok (.istore 10, 2) := by decide +kernel
theorem d_M_worthOf_35 : decode b_M_worthOf 35 = .ok (.iload 10, 2) := by decide +kernel
theorem d_M_worthOf_37 : decode b_M_worthOf 37 = .ok (.bipush 11, 2) := by decide +kernel
theorem d_M_worthOf_39 : decode b_M_worthOf 39 = .ok (.if_icmp .ge 57, 3) := by decide +kernel
theorem d_M_worthOf_42 : decode b_M_worthOf 42 = .ok (.aload_n 0, 1) := by decide +kernel
theorem d_M_worthOf_43 : decode b_M_worthOf 43 = .ok (.getfield 108, 3) := by decide +kernel
theorem d_M_worthOf_46 : decode b_M_worthOf 46 = .ok (.iload 10, 2) := by decide +kernel
theorem d_M_worthOf_48 : decode b_M_worthOf 48 = .ok (.laload, 1) := by decide +kernel
theorem d_M_worthOf_49 : decode b_M_worthOf 49 = .ok (.aload_n 0, 1) := by decide +kernel
theorem d_M_worthOf_50 : decode b_M_worthOf 50 = .ok (.iload_n 2, 1) := by decide +kernel
theorem d_M_worthOf_51 : decode b_M_worthOf 51 = .ok (.iload 5, 2) := by decide +kernel
theorem d_M_worthOf_53 : decode b_M_worthOf 53 = .ok (.iload 10, 2) := by decide +kernel
theorem d_M_worthOf_55 : decode b_M_worthOf 55 = .ok (.invokevirtual 230, 3) := by decide +kernel
theorem d_M_worthOf_58 : decode b_M_worthOf 58 = .ok (.i2l, 1) := by decide +kernel
theorem d_M_worthOf_59 : decode b_M_worthOf 59 = .ok (.lmul, 1) := by decide +kernel
theorem d_M_worthOf_60 : decode b_M_worthOf 60 = .ok (.lstore 11, 2) := by decide +kernel
theorem d_M_worthOf_62 : decode b_M_worthOf 62 = .ok (.lload 6, 2) := by decide +kernel
theorem d_M_worthOf_64 : decode b_M_worthOf 64 = .ok (.lload 11, 2) := by decide +kernel
theorem d_M_worthOf_66 : decode b_M_worthOf 66 = .ok (.ladd, 1) := by decide +kernel
theorem d_M_worthOf_67 : decode b_M_worthOf 67 = .ok (.lstore 6, 2) := by decide +kernel
theorem d_M_worthOf_69 : decode b_M_worthOf 69 = .ok (.lload 8, 2) := by decide +kernel
theorem d_M_worthOf_71 : decode b_M_worthOf 71 = .ok (.aload_n 0, 1) := by decide +kernel
theorem d_M_worthOf_72 : decode b_M_worthOf 72 = .ok (.iload_n 1, 1) := by decide +kernel
theorem d_M_worthOf_73 : decode b_M_worthOf 73 = .ok (.iload 10, 2) := by decide +kernel
theorem d_M_worthOf_75 : decode b_M_worthOf 75 = .ok (.invokevirtual 210, 3) := by decide +kernel
theorem d_M_worthOf_78 : decode b_M_worthOf 78 = .ok (.ifCond .eq 8, 3) := by decide +kernel
theorem d_M_worthOf_81 : decode b_M_worthOf 81 = .ok (.lload 11, 2) := by decide +kernel
theorem d_M_worthOf_83 : decode b_M_worthOf 83 = .ok (.goto 4, 3) := by decide +kernel
theorem d_M_worthOf_86 : decode b_M_worthOf 86 = .ok (.lconst 0, 1) := by decide +kernel
theorem d_M_worthOf_87 : decode b_M_worthOf 87 = .ok (.ladd, 1) := by decide +kernel
theorem d_M_worthOf_88 : decode b_M_worthOf 88 = .ok (.lstore 8, 2) := by decide +kernel
theorem d_M_worthOf_90 : decode b_M_worthOf 90 = .ok (.iinc 10 1, 3) := by decide +kernel
theorem d_M_worthOf_93 : decode b_M_worthOf 93 = .ok (.goto (-58), 3) := by decide +kernel
theorem d_M_worthOf_96 : decode b_M_worthOf 96 = .ok (.lload_n 3, 1) := by decide +kernel
theorem d_M_worthOf_97 : decode b_M_worthOf 97 = .ok (.aload_n 0, 1) := by decide +kernel
theorem d_M_worthOf_98 : decode b_M_worthOf 98 = .ok (.lload 6, 2) := by decide +kernel
theorem d_M_worthOf_100 : decode b_M_worthOf 100 = .ok (.lload 8, 2) := by decide +kernel
theorem d_M_worthOf_102 : decode b_M_worthOf 102 = .ok (.invokevirtual 289, 3) := by decide +kernel
theorem d_M_worthOf_105 : decode b_M_worthOf 105 = .ok (.lsub, 1) := by decide +kernel
theorem d_M_worthOf_106 : decode b_M_worthOf 106 = .ok (.lstore_n 3, 1) := by decide +kernel
theorem d_M_worthOf_107 : decode b_M_worthOf 107 = .ok (.iinc 5 1, 3) := by decide +kernel
theorem d_M_worthOf_110 : decode b_M_worthOf 110 = .ok (.goto (-90), 3) := by decide +kernel
theorem d_M_worthOf_113 : decode b_M_worthOf 113 = .ok (.lload_n 3, 1) := by decide +kernel
theorem d_M_worthOf_114 : decode b_M_worthOf 114 = .ok (.lreturn, 1) := by decide +kernel
abbrev b_M_bestLook : ByteArray := prog_7_method_70_code
abbrev y_M_bestLook : MethodName := ⟨"OldBeamsModel", "bestLook", "(I)I"⟩
theorem d_M_bestLook_0 : decode b_M_bestLook 0 = .ok (.iload_n 1, 1) := by decide +kernel
theorem d_M_bestLook_1 : decode b_M_bestLook 1 = .ok (.invokestatic 151, 3) := by decide +kernel
theorem d_M_bestLook_4 : decode b_M_bestLook 4 = .ok (.ifCond .ne 6, 3) := by decide +kernel
theorem d_M_bestLook_7 : decode b_M_bestLook 7 = .ok (.ldc 143, 2) := by decide +kernel
theorem d_M_bestLook_9 : decode b_M_bestLook 9 = .ok (.ireturn, 1) := by decide +kernel
theorem d_M_bestLook_10 : decode b_M_bestLook 10 = .ok (.aload_n 0, 1) := by decide +kernel
theorem d_M_bestLook_11 : decode b_M_bestLook 11 = .ok (.invokevirtual 161, 3) := by decide +kernel
theorem d_M_bestLook_14 : decode b_M_bestLook 14 = .ok (.ldc 156, 2) := by decide +kernel
theorem d_M_bestLook_16 : decode b_M_bestLook 16 = .ok (.istore_n 2, 1) := by decide +kernel
theorem d_M_bestLook_17 : decode b_M_bestLook 17 = .ok (.lconst 0, 1) := by decide +kernel
theorem d_M_bestLook_18 : decode b_M_bestLook 18 = .ok (.lstore_n 3, 1) := by decide +kernel
theorem d_M_bestLook_19 : decode b_M_bestLook 19 = .ok (.lconst 1, 1) := by decide +kernel
theorem d_M_bestLook_20 : decode b_M_bestLook 20 = .ok (.lstore 5, 2) := by decide +kernel
theorem d_M_bestLook_22 : decode b_M_bestLook 22 = .ok (.iconst 0, 1) := by decide +kernel
theorem d_M_bestLook_23 : decode b_M_bestLook 23 = .ok (.istore 7, 2) := by decide +kernel
theorem d_M_bestLook_25 : decode b_M_bestLook 25 = .ok (.iload 7, 2) := by decide +kernel
theorem d_M_bestLook_27 : decode b_M_bestLook 27 = .ok (.iconst 4, 1) := by decide +kernel
theorem d_M_bestLook_28 : decode b_M_bestLook 28 = .ok (.aload_n 0, 1) := by decide +kernel
theorem d_M_bestLook_29 : decode b_M_bestLook 29 = .ok (.getfield 144, 3) := by decide +kernel
theorem d_M_bestLook_32 : decode b_M_bestLook 32 = .ok (.imul, 1) := by decide +kernel
theorem d_M_bestLook_33 : decode b_M_bestLook 33 = .ok (.if_icmp .ge 94, 3) := by decide +kernel
theorem d_M_bestLook_36 : decode b_M_bestLook 36 = .ok (.iload 7, 2) := by decide +kernel
theorem d_M_bestLook_38 : decode b_M_bestLook 38 = .ok (.iconst 4, 1) := by decide +kernel
theorem d_M_bestLook_39 : decode b_M_bestLook 39 = .ok (.idiv, 1) := by decide +kernel
theorem d_M_bestLook_40 : decode b_M_bestLook 40 = .ok (.istore 8, 2) := by decide +kernel
theorem d_M_bestLook_42 : decode b_M_bestLook 42 = .ok (.aload_n 0, 1) := by decide +kernel
theorem d_M_bestLook_43 : decode b_M_bestLook 43 = .ok (.getfield 74, 3) := by decide +kernel
theorem d_M_bestLook_46 : decode b_M_bestLook 46 = .ok (.iload 8, 2) := by decide +kernel
theorem d_M_bestLook_48 : decode b_M_bestLook 48 = .ok (.baload, 1) := by decide +kernel
theorem d_M_bestLook_49 : decode b_M_bestLook 49 = .ok (.ifCond .ne 72, 3) := by decide +kernel
theorem d_M_bestLook_52 : decode b_M_bestLook 52 = .ok (.aload_n 0, 1) := by decide +kernel
theorem d_M_bestLook_53 : decode b_M_bestLook 53 = .ok (.iload 8, 2) := by decide +kernel
theorem d_M_bestLook_55 : decode b_M_bestLook 55 = .ok (.iload_n 1, 1) := by decide +kernel
theorem d_M_bestLook_56 : decode b_M_bestLook 56 = .ok (.invokevirtual 260, 3) := by decide +kernel
theorem d_M_bestLook_59 : decode b_M_bestLook 59 = .ok (.aload_n 0, 1) := by decide +kernel
theorem d_M_bestLook_60 : decode b_M_bestLook 60 = .ok (.iload 8, 2) := by decide +kernel
theorem d_M_bestLook_62 : decode b_M_bestLook 62 = .ok (.iload 7, 2) := by decide +kernel
theorem d_M_bestLook_64 : decode b_M_bestLook 64 = .ok (.iconst 4, 1) := by decide +kernel
theorem d_M_bestLook_65 : decode b_M_bestLook 65 = .ok (.irem, 1) := by decide +kernel
theorem d_M_bestLook_66 : decode b_M_bestLook 66 = .ok (.invokevirtual 292, 3) := by decide +kernel
theorem d_M_bestLook_69 : decode b_M_bestLook 69 = .ok (.lstore 9, 2) := by decide +kernel
theorem d_M_bestLook_71 : decode b_M_bestLook 71 = .ok (.lload 9, 2) := by decide +kernel
theorem d_M_bestLook_73 : decode b_M_bestLook 73 = .ok (.lconst 0, 1) := by decide +kernel
theorem d_M_bestLook_74 : decode b_M_bestLook 74 = .ok (.lcmp, 1) := by decide +kernel
theorem d_M_bestLook_75 : decode b_M_bestLook 75 = .ok (.ifCond .le 46, 3) := by decide +kernel
theorem d_M_bestLook_78 : decode b_M_bestLook 78 = .ok (.lload 9, 2) := by decide +kernel
theorem d_M_bestLook_80 : decode b_M_bestLook 80 = .ok (.ldc2_w 222, 3) := by decide +kernel
theorem d_M_bestLook_83 : decode b_M_bestLook 83 = .ok (.aload_n 0, 1) := by decide +kernel
theorem d_M_bestLook_84 : decode b_M_bestLook 84 = .ok (.getfield 257, 3) := by decide +kernel
theorem d_M_bestLook_87 : decode b_M_bestLook 87 = .ok (.lmul, 1) := by decide +kernel
theorem d_M_bestLook_88 : decode b_M_bestLook 88 = .ok (.lload_n 3, 1) := by decide +kernel
theorem d_M_bestLook_89 : decode b_M_bestLook 89 = .ok (.lload 5, 2) := by decide +kernel
theorem d_M_bestLook_91 : decode b_M_bestLook 91 = .ok (.invokestatic 267, 3) := by decide +kernel
theorem d_M_bestLook_94 : decode b_M_bestLook 94 = .ok (.ifCond .eq 27, 3) := by decide +kernel
theorem d_M_bestLook_97 : decode b_M_bestLook 97 = .ok (.bipush 10, 2) := by decide +kernel
theorem d_M_bestLook_99 : decode b_M_bestLook 99 = .ok (.iload 8, 2) := by decide +kernel
theorem d_M_bestLook_101 : decode b_M_bestLook 101 = .ok (.imul, 1) := by decide +kernel
theorem d_M_bestLook_102 : decode b_M_bestLook 102 = .ok (.iload 7, 2) := by decide +kernel
theorem d_M_bestLook_104 : decode b_M_bestLook 104 = .ok (.iconst 4, 1) := by decide +kernel
theorem d_M_bestLook_105 : decode b_M_bestLook 105 = .ok (.irem, 1) := by decide +kernel
theorem d_M_bestLook_106 : decode b_M_bestLook 106 = .ok (.iadd, 1) := by decide +kernel
theorem d_M_bestLook_107 : decode b_M_bestLook 107 = .ok (.istore_n 2, 1) := by decide +kernel
theorem d_M_bestLook_108 : decode b_M_bestLook 108 = .ok (.lload 9, 2) := by decide +kernel
theorem d_M_bestLook_110 : decode b_M_bestLook 110 = .ok (.lstore_n 3, 1) := by decide +kernel
theorem d_M_bestLook_111 : decode b_M_bestLook 111 = .ok (.ldc2_w 222, 3) := by decide +kernel
theorem d_M_bestLook_114 : decode b_M_bestLook 114 = .ok (.aload_n 0, 1) := by decide +kernel
theorem d_M_bestLook_115 : decode b_M_bestLook 115 = .ok (.getfield 257, 3) := by decide +kernel
theorem d_M_bestLook_118 : decode b_M_bestLook 118 = .ok (.lmul, 1) := by decide +kernel
theorem d_M_bestLook_119 : decode b_M_bestLook 119 = .ok (.lstore 5, 2) := by decide +kernel
theorem d_M_bestLook_121 : decode b_M_bestLook 121 = .ok (.iinc 7 1, 3) := by decide +kernel
theorem d_M_bestLook_124 : decode b_M_bestLook 124 = .ok (.goto (-99), 3) := by decide +kernel
theorem d_M_bestLook_127 : decode b_M_bestLook 127 = .ok (.iload_n 2, 1) := by decide +kernel
theorem d_M_bestLook_128 : decode b_M_bestLook 128 = .ok (.ireturn, 1) := by decide +kernel
abbrev b_M_count : ByteArray := prog_7_method_71_code
abbrev y_M_count : MethodName := ⟨"OldBeamsModel", "count", "(I)I"⟩
theorem d_M_count_0 : decode b_M_count 0 = .ok (.iconst 0, 1) := by decide +kernel
theorem d_M_count_1 : decode b_M_count 1 = .ok (.istore_n 2, 1) := by decide +kernel
theorem d_M_count_2 : decode b_M_count 2 = .ok (.iconst 0, 1) := by decide +kernel
theorem d_M_count_3 : decode b_M_count 3 = .ok (.istore_n 3, 1) := by decide +kernel
theorem d_M_count_4 : decode b_M_count 4 = .ok (.iconst 0, 1) := by decide +kernel
theorem d_M_count_5 : decode b_M_count 5 = .ok (.istore 4, 2) := by decide +kernel
theorem d_M_count_7 : decode b_M_count 7 = .ok (.iload 4, 2) := by decide +kernel
theorem d_M_count_9 : decode b_M_count 9 = .ok (.aload_n 0, 1) := by decide +kernel
theorem d_M_count_10 : decode b_M_count 10 = .ok (.getfield 170, 3) := by decide +kernel
theorem d_M_count_13 : decode b_M_count 13 = .ok (.if_icmp .ge 27, 3) := by decide +kernel
theorem d_M_count_16 : decode b_M_count 16 = .ok (.iload_n 2, 1) := by decide +kernel
theorem d_M_count_17 : decode b_M_count 17 = .ok (.aload_n 0, 1) := by decide +kernel
theorem d_M_count_18 : decode b_M_count 18 = .ok (.getfield 53, 3) := by decide +kernel
theorem d_M_count_21 : decode b_M_count 21 = .ok (.iload 4, 2) := by decide +kernel
theorem d_M_count_23 : decode b_M_count 23 = .ok (.baload, 1) := by decide +kernel
theorem d_M_count_24 : decode b_M_count 24 = .ok (.ifCond .eq 7, 3) := by decide +kernel
theorem d_M_count_27 : decode b_M_count 27 = .ok (.iconst 0, 1) := by decide +kernel
theorem d_M_count_28 : decode b_M_count 28 = .ok (.goto 4, 3) := by decide +kernel
theorem d_M_count_31 : decode b_M_count 31 = .ok (.iconst 1, 1) := by decide +kernel
theorem d_M_count_32 : decode b_M_count 32 = .ok (.iadd, 1) := by decide +kernel
theorem d_M_count_33 : decode b_M_count 33 = .ok (.istore_n 2, 1) := by decide +kernel
theorem d_M_count_34 : decode b_M_count 34 = .ok (.iinc 4 1, 3) := by decide +kernel
theorem d_M_count_37 : decode b_M_count 37 = .ok (.goto (-30), 3) := by decide +kernel
theorem d_M_count_40 : decode b_M_count 40 = .ok (.iconst 0, 1) := by decide +kernel
theorem d_M_count_41 : decode b_M_count 41 = .ok (.istore 4, 2) := by decide +kernel
theorem d_M_count_43 : decode b_M_count 43 = .ok (.iload 4, 2) := by decide +kernel
theorem d_M_count_45 : decode b_M_count 45 = .ok (.aload_n 0, 1) := by decide +kernel
theorem d_M_count_46 : decode b_M_count 46 = .ok (.getfield 173, 3) := by decide +kernel
theorem d_M_count_49 : decode b_M_count 49 = .ok (.if_icmp .ge 27, 3) := by decide +kernel
theorem d_M_count_52 : decode b_M_count 52 = .ok (.iload_n 3, 1) := by decide +kernel
theorem d_M_count_53 : decode b_M_count 53 = .ok (.aload_n 0, 1) := by decide +kernel
theorem d_M_count_54 : decode b_M_count 54 = .ok (.getfield 65, 3) := by decide +kernel
theorem d_M_count_57 : decode b_M_count 57 = .ok (.iload 4, 2) := by decide +kernel
theorem d_M_count_59 : decode b_M_count 59 = .ok (.baload, 1) := by decide +kernel
theorem d_M_count_60 : decode b_M_count 60 = .ok (.ifCond .eq 7, 3) := by decide +kernel
theorem d_M_count_63 : decode b_M_count 63 = .ok (.iconst 1, 1) := by decide +kernel
theorem d_M_count_64 : decode b_M_count 64 = .ok (.goto 4, 3) := by decide +kernel
theorem d_M_count_67 : decode b_M_count 67 = .ok (.iconst 0, 1) := by decide +kernel
theorem d_M_count_68 : decode b_M_count 68 = .ok (.iadd, 1) := by decide +kernel
theorem d_M_count_69 : decode b_M_count 69 = .ok (.istore_n 3, 1) := by decide +kernel
theorem d_M_count_70 : decode b_M_count 70 = .ok (.iinc 4 1, 3) := by decide +kernel
theorem d_M_count_73 : decode b_M_count 73 = .ok (.goto (-30), 3) := by decide +kernel
theorem d_M_count_76 : decode b_M_count 76 = .ok (.iload_n 1, 1) := by decide +kernel
theorem d_M_count_77 : decode b_M_count 77 = .ok (.tableswitch 67 0 5 #[39, 44, 46, 51, 56, 58], 39) := by decide +kernel
theorem d_M_count_116 : decode b_M_count 116 = .ok (.aload_n 0, 1) := by decide +kernel
theorem d_M_count_117 : decode b_M_count 117 = .ok (.getfield 144, 3) := by decide +kernel
theorem d_M_count_120 : decode b_M_count 120 = .ok (.ireturn, 1) := by decide +kernel
theorem d_M_count_121 : decode b_M_count 121 = .ok (.iload_n 2, 1) := by decide +kernel
theorem d_M_count_122 : decode b_M_count 122 = .ok (.ireturn, 1) := by decide +kernel
theorem d_M_count_123 : decode b_M_count 123 = .ok (.aload_n 0, 1) := by decide +kernel
theorem d_M_count_124 : decode b_M_count 124 = .ok (.getfield 214, 3) := by decide +kernel
theorem d_M_count_127 : decode b_M_count 127 = .ok (.ireturn, 1) := by decide +kernel
theorem d_M_count_128 : decode b_M_count 128 = .ok (.aload_n 0, 1) := by decide +kernel
theorem d_M_count_129 : decode b_M_count 129 = .ok (.getfield 173, 3) := by decide +kernel
theorem d_M_count_132 : decode b_M_count 132 = .ok (.ireturn, 1) := by decide +kernel
theorem d_M_count_133 : decode b_M_count 133 = .ok (.iload_n 3, 1) := by decide +kernel
theorem d_M_count_134 : decode b_M_count 134 = .ok (.ireturn, 1) := by decide +kernel
theorem d_M_count_135 : decode b_M_count 135 = .ok (.aload_n 0, 1) := by decide +kernel
theorem d_M_count_136 : decode b_M_count 136 = .ok (.invokevirtual 161, 3) := by decide +kernel
theorem d_M_count_139 : decode b_M_count 139 = .ok (.aload_n 0, 1) := by decide +kernel
theorem d_M_count_140 : decode b_M_count 140 = .ok (.invokevirtual 202, 3) := by decide +kernel
theorem d_M_count_143 : decode b_M_count 143 = .ok (.ireturn, 1) := by decide +kernel
theorem d_M_count_144 : decode b_M_count 144 = .ok (.ldc 143, 2) := by decide +kernel
theorem d_M_count_146 : decode b_M_count 146 = .ok (.ireturn, 1) := by decide +kernel
end
