def bc (cl : Nat → ClassId) (a : Nat → Nat) : va_W := [(a 0, .inr (4, [.int 0, .int 0, .int 0, .int 0, .int 0, .ref (a 1), .ref (a 2), .ref (a 3), .ref (a 4), .ref (a 5), .ref (a 6), .long 0, .int 0])), (a 1, .inl (cl 0, 2, .inl (fun _ => 0))), (a 2, .inl (cl 0, 2, .inl (fun _ => 0))), (a 3, .inl (cl 0, 2, .inl (fun _ => 0))), (a 4, .inl (cl 2, 61, .inr (.inl (fun _ => 0)))), (a 5, .inl (cl 2, 61, .inr (.inl (fun _ => 0)))), (a 6, .inl (cl 2, 2, .inr (.inl (fun _ => 0))))]
def FZ (cl : Nat → ClassId) (h0 qb : Nat) (fs : List Value) (X Y Z : va_W) (f : Nat → Option Nat) : va_W := ((h0, .inr (1, fs)) :: (X ++ (qb, .inl (cl 3, 12, .inr (.inr (.inr (.inr f))))) :: Y)) ++ Z
def bz (cl : Nat → ClassId) (ad : Nat → Nat → Nat) (i : Nat) : va_W := (List.range i).flatMap (fun j => bc cl (ad j))
def bf (ad : Nat → Nat → Nat) (i : Nat) : Nat → Option Nat := fun t => if t < i then some (ad t 0) else none
theorem bz_s {cl : Nat → ClassId} {ad ad' : Nat → Nat → Nat} {i : Nat} {a : Nat → Nat} (h : ∀ j, j < i → ad' j = ad j) (ha : ad' i = a) : bz cl ad i ++ bc cl a = bz cl ad' (i + 1) := by
  unfold bz
  rw [List.range_succ, List.flatMap_append, List.flatMap_cons, List.flatMap_nil, List.append_nil, ha]
  congr 1
  rw [List.flatMap_def, List.flatMap_def]
  congr 1
  apply List.map_congr_left
  intro j hj
  rw [h j (List.mem_range.mp hj)]
theorem bf_s {ad ad' : Nat → Nat → Nat} {i : Nat} {q : Nat} (h : ∀ j, j < i → ad' j = ad j) (ha : ad' i 0 = q) : va_up (bf ad i) i (some q) = bf ad' (i + 1) := by
  funext t
  unfold bf va_up
  by_cases e : t = i
  · subst e
    rw [if_pos rfl, if_pos (by omega), ha]
  · rw [if_neg e]
    dsimp only
    by_cases h2 : t < i
    · rw [if_pos h2, if_pos (by omega), h t h2]
    · rw [if_neg h2, if_neg (by omega)]
theorem FZ_b {cl : Nat → ClassId} {h0 qb : Nat} {fs : List Value} {X Y Z : va_W} {f : Nat → Option Nat} : (FZ cl h0 qb fs X Y Z f)[X.length + 1]? = some (qb, .inl (cl 3, 12, .inr (.inr (.inr (.inr f))))) := by
  unfold FZ
  rw [List.getElem?_append_left (by simp), List.getElem?_cons_succ, List.getElem?_append_right (Nat.le_refl _), Nat.sub_self]
  rfl
theorem FZ_set {cl : Nat → ClassId} {h0 qb : Nat} {fs : List Value} {X Y Z : va_W} {f g : Nat → Option Nat} : (FZ cl h0 qb fs X Y Z f).set (X.length + 1) (qb, .inl (cl 3, 12, .inr (.inr (.inr (.inr g))))) = FZ cl h0 qb fs X Y Z g := by
  unfold FZ
  rw [List.set_append_left _ _ (by simp), List.set_cons_succ, List.set_append_right _ _ (Nat.le_refl _), Nat.sub_self]
  rfl
theorem FZ_app {cl : Nat → ClassId} {h0 qb : Nat} {fs : List Value} {X Y Z W : va_W} {f : Nat → Option Nat} : FZ cl h0 qb fs X Y Z f ++ W = FZ cl h0 qb fs X Y (Z ++ W) f := by
  unfold FZ
  rw [List.append_assoc]
theorem F_loop {G : zH} {ce sl : Nat} {cl : Nat → ClassId} (C : zB G b_F_init "OldBeams$Frame" 2 2 ce sl 40 cl) {h0 qb : Nat} {fs : List Value} {X Y : va_W} {cn sn : Nat} (hfs : fs[1]? = some (.ref qb)) (hce : cn + 84 ≤ ce) (hsl : sn + 1716 ≤ sl) (k : ∀ ad : Nat → Nat → Nat, VB G (FZ cl h0 qb fs X Y (bz cl ad 12) (bf ad 12)) (cn + 7 * 12) (sn + 143 * 12) 138 [some (.ref h0), some (.int (iI 12))] []) : ∀ (n i : Nat) (ad : Nat → Nat → Nat), i + n = 12 → VB G (FZ cl h0 qb fs X Y (bz cl ad i) (bf ad i)) (cn + 7 * i) (sn + 143 * i) 113 [some (.ref h0), some (.int (iI (i : Int)))] []
  | n, i, ad, hn => by
    refine b_ild1 C d_F_init_113 ?_
    refine b_bipush C (n := 12) rfl d_F_init_114 ?_
    refine b_icmp_ge C (tgt := 138) (by omega) (by decide) d_F_init_116 (by decide) (fun q => ?_) (fun q => ?_)
    · have e : i = 12 := by omega
      subst e
      exact k ad
    · match n, hn with
      | 0, hn => omega
      | n + 1, hn =>
        refine b_ald0 C d_F_init_119 ?_
        refine b_get C (q0 := 0) rfl rfl (tb_lay lay_F) 1 (by decide) k_95 rfl (v := .ref qb) hfs d_F_init_120 ?_
        refine b_ild1 C d_F_init_123 ?_
        refine b_new C (Cn := RX_B) (T := TX_B) (Nf := 13) (ci := 4) (fs := [.int 0, .int 0, .int 0, .int 0, .int 0, .null, .null, .null, .null, .null, .null, .long 0, .int 0]) (tb_lay lay_B) ty_B tyok_B k_26 k_28 k_3 rfl (by decide) (by omega) (by omega) d_F_init_124 (fun q1 => ?_)
        refine b_dup C rfl d_F_init_127 ?_
        refine b_initN C (y := y_B_init) (bytes := b_B_init) (maxL := 1) (fr2 := 1) (ce2 := 6) (sl2 := 130) (lc2 := 20) (fun sz => i_B_init _ _ _ _ sz) k_31 (fun U h => h.2.2.1) k_30 k_3 (by decide +kernel) rfl (by decide) (by omega) (Nat.le_of_ble_eq_true rfl) rfl d_F_init_128 (fun W1 hW => ?_)
        obtain ⟨q6, q13, q20, q28, q36, q43, rfl⟩ := hW
        refine b_astB C (q0 := X.length + 1) (qk := (FZ cl h0 qb fs X Y (bz cl ad i) (bf ad i)).length) (by rw [List.getElem?_append_left (by have := (List.getElem?_eq_some_iff.mp (FZ_b (cl := cl) (h0 := h0) (qb := qb) (fs := fs) (X := X) (Y := Y) (Z := bz cl ad i) (f := bf ad i))).1; exact this)]; exact FZ_b) (by rw [List.getElem?_append_right (Nat.le_refl _), Nat.sub_self]; rfl) (by omega) (by omega) (by decide) d_F_init_131 ?_
        have e1 : (FZ cl h0 qb fs X Y (bz cl ad i) (bf ad i) ++ bc cl (fun t => ([q1, q6, q13, q20, q28, q36, q43] : List Nat).getD t 0)).set (X.length + 1) (qb, .inl (cl 3, 12, .inr (.inr (.inr (.inr (va_up (bf ad i) i (some q1))))))) = FZ cl h0 qb fs X Y (bz cl (fun j => if j = i then (fun t => ([q1, q6, q13, q20, q28, q36, q43] : List Nat).getD t 0) else ad j) (i + 1)) (bf (fun j => if j = i then (fun t => ([q1, q6, q13, q20, q28, q36, q43] : List Nat).getD t 0) else ad j) (i + 1)) := by
          rw [FZ_app, FZ_set, bz_s (ad' := fun j => if j = i then (fun t => ([q1, q6, q13, q20, q28, q36, q43] : List Nat).getD t 0) else ad j) (fun j hj => if_neg (by omega)) (if_pos rfl), bf_s (ad' := fun j => if j = i then (fun t => ([q1, q6, q13, q20, q28, q36, q43] : List Nat).getD t 0) else ad j) (fun j hj => if_neg (by omega)) (by rw [if_pos rfl]; rfl)]
        have e2 : cn + 7 * i + 1 + 6 = cn + 7 * (i + 1) := by omega
        have e3 : sn + 143 * i + 13 + 130 = sn + 143 * (i + 1) := by omega
        rw [e2, e3]
        show VB G ((FZ cl h0 qb fs X Y (bz cl ad i) (bf ad i) ++ bc cl (fun t => ([q1, q6, q13, q20, q28, q36, q43] : List Nat).getD t 0)).set (X.length + 1) (qb, .inl (cl 3, 12, .inr (.inr (.inr (.inr (va_up (bf ad i) i (some q1)))))))) _ _ _ _ _
        rw [e1]
        refine b_iinc1 C rfl d_F_init_132 ?_
        refine b_goto C (tgt := 113) d_F_init_135 (by decide) ?_
        exact F_loop C hfs hce hsl k n (i + 1) _ (by omega)
abbrev PF (cl : Nat → ClassId) (h0 : Nat) (ws : va_W) : Prop := ∃ (q7 : Nat) (r7 : Nat → Nat) (q17 : Nat) (q26 : Nat) (q34 : Nat) (q42 : Nat) (q50 : Nat) (q58 : Nat) (q66 : Nat) (q74 : Nat) (ad : Nat → Nat → Nat), ws = FZ cl h0 q17 [.ref q7, .ref q17, .int 0, .int 0, .ref q26, .ref q34, .ref q42, .ref q50, .int 0, .ref q58, .ref q66, .ref q74, .int 0, .int 0, .int 0] [(q7, .inl (cl 4, 4, .inr (.inr (.inr (.inr (fun i => some (r7 i))))))), (r7 0, .inl (cl 0, 3, .inl (upd (upd (fun _ => 0) 0 (iI 100)) 2 (iI 1)))), (r7 1, .inl (cl 0, 3, .inl (upd (upd (fun _ => 0) 0 (iI 100)) 2 (iI 1)))), (r7 2, .inl (cl 0, 3, .inl (upd (upd (fun _ => 0) 0 (iI 100)) 2 (iI 1)))), (r7 3, .inl (cl 0, 3, .inl (upd (upd (fun _ => 0) 0 (iI 100)) 2 (iI 1))))] [(q26, .inl (cl 0, 40, .inl (fun _ => 0))), (q34, .inl (cl 0, 40, .inl (fun _ => 0))), (q42, .inl (cl 0, 40, .inl (fun _ => 0))), (q50, .inl (cl 1, 40, .inl (fun _ => 0))), (q58, .inl (cl 0, 8, .inl (fun _ => 0))), (q66, .inl (cl 0, 8, .inl (fun _ => 0))), (q74, .inl (cl 0, 8, .inl (fun _ => 0)))] (bz cl ad 12) (fun t => some (ad t 0))
set_option maxRecDepth 20000 in
theorem i_F_init (l : Launch) (D : va_G) (cl : Nat → ClassId) (h0 sz : Nat) : zKi l D cl y_F_init b_F_init 2 2 97 1928 40 h0 (.inr (1, [.null, .null, .int 0, .int 0, .null, .null, .null, .null, .int 0, .null, .null, .null, .int 0, .int 0, .int 0])) sz (PF cl h0) := by
  refine zKi.of "OldBeams$Frame" rfl rfl (by decide) (by decide) ?_
  intro G hq C
  show VB G [(h0, _)] 0 0 0 [some (.ref h0), none] []
  refine b_ald0 C (pc := 0) d_F_init_0 ?_
  refine b_obj C (pc := 1) k_23 (by decide) (by decide) rfl (by decide) d_F_init_1 ?_
  refine b_ald0 C (pc := 4) d_F_init_4 ?_
  refine b_iconst C (pc := 5) d_F_init_5 ?_
  refine b_iconst C (pc := 6) d_F_init_6 ?_
  refine b_mna C (pc := 7) (N := 4) (K := 3) rfl rfl (by decide) (by decide) (by decide) (by decide) k_24 k_90 d_F_init_7 (fun q7 r7 => ?_)
  show VB G [(h0, .inr (1, [.null, .null, .int 0, .int 0, .null, .null, .null, .null, .int 0, .null, .null, .null, .int 0, .int 0, .int 0])), (q7, .inl (cl 4, 4, .inr (.inr (.inr (.inr (fun i => some (r7 i))))))), (r7 0, .inl (cl 0, 3, .inl (fun _ => 0))), (r7 1, .inl (cl 0, 3, .inl (fun _ => 0))), (r7 2, .inl (cl 0, 3, .inl (fun _ => 0))), (r7 3, .inl (cl 0, 3, .inl (fun _ => 0)))] 5 16 11 [some (.ref h0), none] [.ref q7, .ref h0]
  refine b_putF C (pc := 11) (q0 := 0) rfl rfl (tb_lay lay_F) ty_F tyok_F nm_F 0 (by decide) k_93 rfl rfl rfl (ty := .array (.array .int)) (by decide +kernel) rfl rfl (Nat.le_of_ble_eq_true rfl) d_F_init_11 ?_
  show VB G [(h0, .inr (1, [.ref q7, .null, .int 0, .int 0, .null, .null, .null, .null, .int 0, .null, .null, .null, .int 0, .int 0, .int 0])), (q7, .inl (cl 4, 4, .inr (.inr (.inr (.inr (fun i => some (r7 i))))))), (r7 0, .inl (cl 0, 3, .inl (fun _ => 0))), (r7 1, .inl (cl 0, 3, .inl (fun _ => 0))), (r7 2, .inl (cl 0, 3, .inl (fun _ => 0))), (r7 3, .inl (cl 0, 3, .inl (fun _ => 0)))] 5 16 14 [some (.ref h0), none] []
  refine b_ald0 C (pc := 14) d_F_init_14 ?_
  refine b_bipush C (pc := 15) (n := 12) rfl d_F_init_15 ?_
  refine b_anew C (pc := 17) (N := 12) rfl (by decide) (by decide) (by decide) k_26 d_F_init_17 (fun q17 => ?_)
  show VB G [(h0, .inr (1, [.ref q7, .null, .int 0, .int 0, .null, .null, .null, .null, .int 0, .null, .null, .null, .int 0, .int 0, .int 0])), (q7, .inl (cl 4, 4, .inr (.inr (.inr (.inr (fun i => some (r7 i))))))), (r7 0, .inl (cl 0, 3, .inl (fun _ => 0))), (r7 1, .inl (cl 0, 3, .inl (fun _ => 0))), (r7 2, .inl (cl 0, 3, .inl (fun _ => 0))), (r7 3, .inl (cl 0, 3, .inl (fun _ => 0))), (q17, .inl (cl 3, 12, .inr (.inr (.inr (.inr (fun _ => none))))))] 6 28 20 [some (.ref h0), none] [.ref q17, .ref h0]
  refine b_putF C (pc := 20) (q0 := 0) rfl rfl (tb_lay lay_F) ty_F tyok_F nm_F 1 (by decide) k_95 rfl rfl rfl (ty := .array (.object "OldBeams$Beam")) (by decide +kernel) rfl rfl (Nat.le_of_ble_eq_true rfl) d_F_init_20 ?_
  show VB G [(h0, .inr (1, [.ref q7, .ref q17, .int 0, .int 0, .null, .null, .null, .null, .int 0, .null, .null, .null, .int 0, .int 0, .int 0])), (q7, .inl (cl 4, 4, .inr (.inr (.inr (.inr (fun i => some (r7 i))))))), (r7 0, .inl (cl 0, 3, .inl (fun _ => 0))), (r7 1, .inl (cl 0, 3, .inl (fun _ => 0))), (r7 2, .inl (cl 0, 3, .inl (fun _ => 0))), (r7 3, .inl (cl 0, 3, .inl (fun _ => 0))), (q17, .inl (cl 3, 12, .inr (.inr (.inr (.inr (fun _ => none))))))] 6 28 23 [some (.ref h0), none] []
  refine b_ald0 C (pc := 23) d_F_init_23 ?_
  refine b_bipush C (pc := 24) (n := 40) rfl d_F_init_24 ?_
  refine b_newaI C (pc := 26) (N := 40) rfl (by decide) (by decide) (by decide) k_90 d_F_init_26 (fun q26 => ?_)
  show VB G [(h0, .inr (1, [.ref q7, .ref q17, .int 0, .int 0, .null, .null, .null, .null, .int 0, .null, .null, .null, .int 0, .int 0, .int 0])), (q7, .inl (cl 4, 4, .inr (.inr (.inr (.inr (fun i => some (r7 i))))))), (r7 0, .inl (cl 0, 3, .inl (fun _ => 0))), (r7 1, .inl (cl 0, 3, .inl (fun _ => 0))), (r7 2, .inl (cl 0, 3, .inl (fun _ => 0))), (r7 3, .inl (cl 0, 3, .inl (fun _ => 0))), (q17, .inl (cl 3, 12, .inr (.inr (.inr (.inr (fun _ => none)))))), (q26, .inl (cl 0, 40, .inl (fun _ => 0)))] 7 68 28 [some (.ref h0), none] [.ref q26, .ref h0]
  refine b_putF C (pc := 28) (q0 := 0) rfl rfl (tb_lay lay_F) ty_F tyok_F nm_F 4 (by decide) k_101 rfl rfl rfl (ty := .array .int) (by decide +kernel) rfl rfl (Nat.le_of_ble_eq_true rfl) d_F_init_28 ?_
  show VB G [(h0, .inr (1, [.ref q7, .ref q17, .int 0, .int 0, .ref q26, .null, .null, .null, .int 0, .null, .null, .null, .int 0, .int 0, .int 0])), (q7, .inl (cl 4, 4, .inr (.inr (.inr (.inr (fun i => some (r7 i))))))), (r7 0, .inl (cl 0, 3, .inl (fun _ => 0))), (r7 1, .inl (cl 0, 3, .inl (fun _ => 0))), (r7 2, .inl (cl 0, 3, .inl (fun _ => 0))), (r7 3, .inl (cl 0, 3, .inl (fun _ => 0))), (q17, .inl (cl 3, 12, .inr (.inr (.inr (.inr (fun _ => none)))))), (q26, .inl (cl 0, 40, .inl (fun _ => 0)))] 7 68 31 [some (.ref h0), none] []
  refine b_ald0 C (pc := 31) d_F_init_31 ?_
  refine b_bipush C (pc := 32) (n := 40) rfl d_F_init_32 ?_
  refine b_newaI C (pc := 34) (N := 40) rfl (by decide) (by decide) (by decide) k_90 d_F_init_34 (fun q34 => ?_)
  show VB G [(h0, .inr (1, [.ref q7, .ref q17, .int 0, .int 0, .ref q26, .null, .null, .null, .int 0, .null, .null, .null, .int 0, .int 0, .int 0])), (q7, .inl (cl 4, 4, .inr (.inr (.inr (.inr (fun i => some (r7 i))))))), (r7 0, .inl (cl 0, 3, .inl (fun _ => 0))), (r7 1, .inl (cl 0, 3, .inl (fun _ => 0))), (r7 2, .inl (cl 0, 3, .inl (fun _ => 0))), (r7 3, .inl (cl 0, 3, .inl (fun _ => 0))), (q17, .inl (cl 3, 12, .inr (.inr (.inr (.inr (fun _ => none)))))), (q26, .inl (cl 0, 40, .inl (fun _ => 0))), (q34, .inl (cl 0, 40, .inl (fun _ => 0)))] 8 108 36 [some (.ref h0), none] [.ref q34, .ref h0]
  refine b_putF C (pc := 36) (q0 := 0) rfl rfl (tb_lay lay_F) ty_F tyok_F nm_F 5 (by decide) k_102 rfl rfl rfl (ty := .array .int) (by decide +kernel) rfl rfl (Nat.le_of_ble_eq_true rfl) d_F_init_36 ?_
  show VB G [(h0, .inr (1, [.ref q7, .ref q17, .int 0, .int 0, .ref q26, .ref q34, .null, .null, .int 0, .null, .null, .null, .int 0, .int 0, .int 0])), (q7, .inl (cl 4, 4, .inr (.inr (.inr (.inr (fun i => some (r7 i))))))), (r7 0, .inl (cl 0, 3, .inl (fun _ => 0))), (r7 1, .inl (cl 0, 3, .inl (fun _ => 0))), (r7 2, .inl (cl 0, 3, .inl (fun _ => 0))), (r7 3, .inl (cl 0, 3, .inl (fun _ => 0))), (q17, .inl (cl 3, 12, .inr (.inr (.inr (.inr (fun _ => none)))))), (q26, .inl (cl 0, 40, .inl (fun _ => 0))), (q34, .inl (cl 0, 40, .inl (fun _ => 0)))] 8 108 39 [some (.ref h0), none] []
  refine b_ald0 C (pc := 39) d_F_init_39 ?_
  refine b_bipush C (pc := 40) (n := 40) rfl d_F_init_40 ?_
  refine b_newaI C (pc := 42) (N := 40) rfl (by decide) (by decide) (by decide) k_90 d_F_init_42 (fun q42 => ?_)
  show VB G [(h0, .inr (1, [.ref q7, .ref q17, .int 0, .int 0, .ref q26, .ref q34, .null, .null, .int 0, .null, .null, .null, .int 0, .int 0, .int 0])), (q7, .inl (cl 4, 4, .inr (.inr (.inr (.inr (fun i => some (r7 i))))))), (r7 0, .inl (cl 0, 3, .inl (fun _ => 0))), (r7 1, .inl (cl 0, 3, .inl (fun _ => 0))), (r7 2, .inl (cl 0, 3, .inl (fun _ => 0))), (r7 3, .inl (cl 0, 3, .inl (fun _ => 0))), (q17, .inl (cl 3, 12, .inr (.inr (.inr (.inr (fun _ => none)))))), (q26, .inl (cl 0, 40, .inl (fun _ => 0))), (q34, .inl (cl 0, 40, .inl (fun _ => 0))), (q42, .inl (cl 0, 40, .inl (fun _ => 0)))] 9 148 44 [some (.ref h0), none] [.ref q42, .ref h0]
  refine b_putF C (pc := 44) (q0 := 0) rfl rfl (tb_lay lay_F) ty_F tyok_F nm_F 6 (by decide) k_103 rfl rfl rfl (ty := .array .int) (by decide +kernel) rfl rfl (Nat.le_of_ble_eq_true rfl) d_F_init_44 ?_
  show VB G [(h0, .inr (1, [.ref q7, .ref q17, .int 0, .int 0, .ref q26, .ref q34, .ref q42, .null, .int 0, .null, .null, .null, .int 0, .int 0, .int 0])), (q7, .inl (cl 4, 4, .inr (.inr (.inr (.inr (fun i => some (r7 i))))))), (r7 0, .inl (cl 0, 3, .inl (fun _ => 0))), (r7 1, .inl (cl 0, 3, .inl (fun _ => 0))), (r7 2, .inl (cl 0, 3, .inl (fun _ => 0))), (r7 3, .inl (cl 0, 3, .inl (fun _ => 0))), (q17, .inl (cl 3, 12, .inr (.inr (.inr (.inr (fun _ => none)))))), (q26, .inl (cl 0, 40, .inl (fun _ => 0))), (q34, .inl (cl 0, 40, .inl (fun _ => 0))), (q42, .inl (cl 0, 40, .inl (fun _ => 0)))] 9 148 47 [some (.ref h0), none] []
  refine b_ald0 C (pc := 47) d_F_init_47 ?_
  refine b_bipush C (pc := 48) (n := 40) rfl d_F_init_48 ?_
  refine b_newaZ C (pc := 50) (N := 40) rfl (by decide) (by decide) (by decide) k_91 d_F_init_50 (fun q50 => ?_)
  show VB G [(h0, .inr (1, [.ref q7, .ref q17, .int 0, .int 0, .ref q26, .ref q34, .ref q42, .null, .int 0, .null, .null, .null, .int 0, .int 0, .int 0])), (q7, .inl (cl 4, 4, .inr (.inr (.inr (.inr (fun i => some (r7 i))))))), (r7 0, .inl (cl 0, 3, .inl (fun _ => 0))), (r7 1, .inl (cl 0, 3, .inl (fun _ => 0))), (r7 2, .inl (cl 0, 3, .inl (fun _ => 0))), (r7 3, .inl (cl 0, 3, .inl (fun _ => 0))), (q17, .inl (cl 3, 12, .inr (.inr (.inr (.inr (fun _ => none)))))), (q26, .inl (cl 0, 40, .inl (fun _ => 0))), (q34, .inl (cl 0, 40, .inl (fun _ => 0))), (q42, .inl (cl 0, 40, .inl (fun _ => 0))), (q50, .inl (cl 1, 40, .inl (fun _ => 0)))] 10 188 52 [some (.ref h0), none] [.ref q50, .ref h0]
  refine b_putF C (pc := 52) (q0 := 0) rfl rfl (tb_lay lay_F) ty_F tyok_F nm_F 7 (by decide) k_105 rfl rfl rfl (ty := .array .boolean) (by decide +kernel) rfl rfl (Nat.le_of_ble_eq_true rfl) d_F_init_52 ?_
  show VB G [(h0, .inr (1, [.ref q7, .ref q17, .int 0, .int 0, .ref q26, .ref q34, .ref q42, .ref q50, .int 0, .null, .null, .null, .int 0, .int 0, .int 0])), (q7, .inl (cl 4, 4, .inr (.inr (.inr (.inr (fun i => some (r7 i))))))), (r7 0, .inl (cl 0, 3, .inl (fun _ => 0))), (r7 1, .inl (cl 0, 3, .inl (fun _ => 0))), (r7 2, .inl (cl 0, 3, .inl (fun _ => 0))), (r7 3, .inl (cl 0, 3, .inl (fun _ => 0))), (q17, .inl (cl 3, 12, .inr (.inr (.inr (.inr (fun _ => none)))))), (q26, .inl (cl 0, 40, .inl (fun _ => 0))), (q34, .inl (cl 0, 40, .inl (fun _ => 0))), (q42, .inl (cl 0, 40, .inl (fun _ => 0))), (q50, .inl (cl 1, 40, .inl (fun _ => 0)))] 10 188 55 [some (.ref h0), none] []
  refine b_ald0 C (pc := 55) d_F_init_55 ?_
  refine b_bipush C (pc := 56) (n := 8) rfl d_F_init_56 ?_
  refine b_newaI C (pc := 58) (N := 8) rfl (by decide) (by decide) (by decide) k_90 d_F_init_58 (fun q58 => ?_)
  show VB G [(h0, .inr (1, [.ref q7, .ref q17, .int 0, .int 0, .ref q26, .ref q34, .ref q42, .ref q50, .int 0, .null, .null, .null, .int 0, .int 0, .int 0])), (q7, .inl (cl 4, 4, .inr (.inr (.inr (.inr (fun i => some (r7 i))))))), (r7 0, .inl (cl 0, 3, .inl (fun _ => 0))), (r7 1, .inl (cl 0, 3, .inl (fun _ => 0))), (r7 2, .inl (cl 0, 3, .inl (fun _ => 0))), (r7 3, .inl (cl 0, 3, .inl (fun _ => 0))), (q17, .inl (cl 3, 12, .inr (.inr (.inr (.inr (fun _ => none)))))), (q26, .inl (cl 0, 40, .inl (fun _ => 0))), (q34, .inl (cl 0, 40, .inl (fun _ => 0))), (q42, .inl (cl 0, 40, .inl (fun _ => 0))), (q50, .inl (cl 1, 40, .inl (fun _ => 0))), (q58, .inl (cl 0, 8, .inl (fun _ => 0)))] 11 196 60 [some (.ref h0), none] [.ref q58, .ref h0]
  refine b_putF C (pc := 60) (q0 := 0) rfl rfl (tb_lay lay_F) ty_F tyok_F nm_F 9 (by decide) k_109 rfl rfl rfl (ty := .array .int) (by decide +kernel) rfl rfl (Nat.le_of_ble_eq_true rfl) d_F_init_60 ?_
  show VB G [(h0, .inr (1, [.ref q7, .ref q17, .int 0, .int 0, .ref q26, .ref q34, .ref q42, .ref q50, .int 0, .ref q58, .null, .null, .int 0, .int 0, .int 0])), (q7, .inl (cl 4, 4, .inr (.inr (.inr (.inr (fun i => some (r7 i))))))), (r7 0, .inl (cl 0, 3, .inl (fun _ => 0))), (r7 1, .inl (cl 0, 3, .inl (fun _ => 0))), (r7 2, .inl (cl 0, 3, .inl (fun _ => 0))), (r7 3, .inl (cl 0, 3, .inl (fun _ => 0))), (q17, .inl (cl 3, 12, .inr (.inr (.inr (.inr (fun _ => none)))))), (q26, .inl (cl 0, 40, .inl (fun _ => 0))), (q34, .inl (cl 0, 40, .inl (fun _ => 0))), (q42, .inl (cl 0, 40, .inl (fun _ => 0))), (q50, .inl (cl 1, 40, .inl (fun _ => 0))), (q58, .inl (cl 0, 8, .inl (fun _ => 0)))] 11 196 63 [some (.ref h0), none] []
  refine b_ald0 C (pc := 63) d_F_init_63 ?_
  refine b_bipush C (pc := 64) (n := 8) rfl d_F_init_64 ?_
  refine b_newaI C (pc := 66) (N := 8) rfl (by decide) (by decide) (by decide) k_90 d_F_init_66 (fun q66 => ?_)
  show VB G [(h0, .inr (1, [.ref q7, .ref q17, .int 0, .int 0, .ref q26, .ref q34, .ref q42, .ref q50, .int 0, .ref q58, .null, .null, .int 0, .int 0, .int 0])), (q7, .inl (cl 4, 4, .inr (.inr (.inr (.inr (fun i => some (r7 i))))))), (r7 0, .inl (cl 0, 3, .inl (fun _ => 0))), (r7 1, .inl (cl 0, 3, .inl (fun _ => 0))), (r7 2, .inl (cl 0, 3, .inl (fun _ => 0))), (r7 3, .inl (cl 0, 3, .inl (fun _ => 0))), (q17, .inl (cl 3, 12, .inr (.inr (.inr (.inr (fun _ => none)))))), (q26, .inl (cl 0, 40, .inl (fun _ => 0))), (q34, .inl (cl 0, 40, .inl (fun _ => 0))), (q42, .inl (cl 0, 40, .inl (fun _ => 0))), (q50, .inl (cl 1, 40, .inl (fun _ => 0))), (q58, .inl (cl 0, 8, .inl (fun _ => 0))), (q66, .inl (cl 0, 8, .inl (fun _ => 0)))] 12 204 68 [some (.ref h0), none] [.ref q66, .ref h0]
  refine b_putF C (pc := 68) (q0 := 0) rfl rfl (tb_lay lay_F) ty_F tyok_F nm_F 10 (by decide) k_110 rfl rfl rfl (ty := .array .int) (by decide +kernel) rfl rfl (Nat.le_of_ble_eq_true rfl) d_F_init_68 ?_
  show VB G [(h0, .inr (1, [.ref q7, .ref q17, .int 0, .int 0, .ref q26, .ref q34, .ref q42, .ref q50, .int 0, .ref q58, .ref q66, .null, .int 0, .int 0, .int 0])), (q7, .inl (cl 4, 4, .inr (.inr (.inr (.inr (fun i => some (r7 i))))))), (r7 0, .inl (cl 0, 3, .inl (fun _ => 0))), (r7 1, .inl (cl 0, 3, .inl (fun _ => 0))), (r7 2, .inl (cl 0, 3, .inl (fun _ => 0))), (r7 3, .inl (cl 0, 3, .inl (fun _ => 0))), (q17, .inl (cl 3, 12, .inr (.inr (.inr (.inr (fun _ => none)))))), (q26, .inl (cl 0, 40, .inl (fun _ => 0))), (q34, .inl (cl 0, 40, .inl (fun _ => 0))), (q42, .inl (cl 0, 40, .inl (fun _ => 0))), (q50, .inl (cl 1, 40, .inl (fun _ => 0))), (q58, .inl (cl 0, 8, .inl (fun _ => 0))), (q66, .inl (cl 0, 8, .inl (fun _ => 0)))] 12 204 71 [some (.ref h0), none] []
  refine b_ald0 C (pc := 71) d_F_init_71 ?_
  refine b_bipush C (pc := 72) (n := 8) rfl d_F_init_72 ?_
  refine b_newaI C (pc := 74) (N := 8) rfl (by decide) (by decide) (by decide) k_90 d_F_init_74 (fun q74 => ?_)
  show VB G [(h0, .inr (1, [.ref q7, .ref q17, .int 0, .int 0, .ref q26, .ref q34, .ref q42, .ref q50, .int 0, .ref q58, .ref q66, .null, .int 0, .int 0, .int 0])), (q7, .inl (cl 4, 4, .inr (.inr (.inr (.inr (fun i => some (r7 i))))))), (r7 0, .inl (cl 0, 3, .inl (fun _ => 0))), (r7 1, .inl (cl 0, 3, .inl (fun _ => 0))), (r7 2, .inl (cl 0, 3, .inl (fun _ => 0))), (r7 3, .inl (cl 0, 3, .inl (fun _ => 0))), (q17, .inl (cl 3, 12, .inr (.inr (.inr (.inr (fun _ => none)))))), (q26, .inl (cl 0, 40, .inl (fun _ => 0))), (q34, .inl (cl 0, 40, .inl (fun _ => 0))), (q42, .inl (cl 0, 40, .inl (fun _ => 0))), (q50, .inl (cl 1, 40, .inl (fun _ => 0))), (q58, .inl (cl 0, 8, .inl (fun _ => 0))), (q66, .inl (cl 0, 8, .inl (fun _ => 0))), (q74, .inl (cl 0, 8, .inl (fun _ => 0)))] 13 212 76 [some (.ref h0), none] [.ref q74, .ref h0]
  refine b_putF C (pc := 76) (q0 := 0) rfl rfl (tb_lay lay_F) ty_F tyok_F nm_F 11 (by decide) k_111 rfl rfl rfl (ty := .array .int) (by decide +kernel) rfl rfl (Nat.le_of_ble_eq_true rfl) d_F_init_76 ?_
  show VB G [(h0, .inr (1, [.ref q7, .ref q17, .int 0, .int 0, .ref q26, .ref q34, .ref q42, .ref q50, .int 0, .ref q58, .ref q66, .ref q74, .int 0, .int 0, .int 0])), (q7, .inl (cl 4, 4, .inr (.inr (.inr (.inr (fun i => some (r7 i))))))), (r7 0, .inl (cl 0, 3, .inl (fun _ => 0))), (r7 1, .inl (cl 0, 3, .inl (fun _ => 0))), (r7 2, .inl (cl 0, 3, .inl (fun _ => 0))), (r7 3, .inl (cl 0, 3, .inl (fun _ => 0))), (q17, .inl (cl 3, 12, .inr (.inr (.inr (.inr (fun _ => none)))))), (q26, .inl (cl 0, 40, .inl (fun _ => 0))), (q34, .inl (cl 0, 40, .inl (fun _ => 0))), (q42, .inl (cl 0, 40, .inl (fun _ => 0))), (q50, .inl (cl 1, 40, .inl (fun _ => 0))), (q58, .inl (cl 0, 8, .inl (fun _ => 0))), (q66, .inl (cl 0, 8, .inl (fun _ => 0))), (q74, .inl (cl 0, 8, .inl (fun _ => 0)))] 13 212 79 [some (.ref h0), none] []
  refine b_iconst C (pc := 79) d_F_init_79 ?_
  refine b_ist1 C (pc := 80) rfl d_F_init_80 ?_
  show VB G [(h0, .inr (1, [.ref q7, .ref q17, .int 0, .int 0, .ref q26, .ref q34, .ref q42, .ref q50, .int 0, .ref q58, .ref q66, .ref q74, .int 0, .int 0, .int 0])), (q7, .inl (cl 4, 4, .inr (.inr (.inr (.inr (fun i => some (r7 i))))))), (r7 0, .inl (cl 0, 3, .inl (fun _ => 0))), (r7 1, .inl (cl 0, 3, .inl (fun _ => 0))), (r7 2, .inl (cl 0, 3, .inl (fun _ => 0))), (r7 3, .inl (cl 0, 3, .inl (fun _ => 0))), (q17, .inl (cl 3, 12, .inr (.inr (.inr (.inr (fun _ => none)))))), (q26, .inl (cl 0, 40, .inl (fun _ => 0))), (q34, .inl (cl 0, 40, .inl (fun _ => 0))), (q42, .inl (cl 0, 40, .inl (fun _ => 0))), (q50, .inl (cl 1, 40, .inl (fun _ => 0))), (q58, .inl (cl 0, 8, .inl (fun _ => 0))), (q66, .inl (cl 0, 8, .inl (fun _ => 0))), (q74, .inl (cl 0, 8, .inl (fun _ => 0)))] 13 212 81 [some (.ref h0), some (.int (iI 0))] []
  refine b_ild1 C (pc := 81) d_F_init_81 ?_
  refine b_iconst C (pc := 82) d_F_init_82 ?_
  refine b_icmp_ge C (pc := 83) (tgt := 111) (by decide) (by decide) d_F_init_83 (by decide) (fun q => absurd q (by decide)) (fun _ => ?_)
  refine b_ald0 C (pc := 86) d_F_init_86 ?_
  refine b_get C (pc := 87) (q0 := 0) rfl rfl (tb_lay lay_F) 0 (by decide) k_93 rfl (v := .ref q7) rfl d_F_init_87 ?_
  refine b_ild1 C (pc := 90) d_F_init_90 ?_
  refine b_aldA C (pc := 91) (q0 := 1) (v := .ref (r7 0)) rfl (by decide) (by decide) (by decide) rfl d_F_init_91 ?_
  refine b_iconst C (pc := 92) d_F_init_92 ?_
  refine b_bipush C (pc := 93) (n := 100) rfl d_F_init_93 ?_
  refine b_iast C (pc := 95) (q0 := 2) rfl (by decide) (by decide) (by decide) d_F_init_95 ?_
  show VB G [(h0, .inr (1, [.ref q7, .ref q17, .int 0, .int 0, .ref q26, .ref q34, .ref q42, .ref q50, .int 0, .ref q58, .ref q66, .ref q74, .int 0, .int 0, .int 0])), (q7, .inl (cl 4, 4, .inr (.inr (.inr (.inr (fun i => some (r7 i))))))), (r7 0, .inl (cl 0, 3, .inl (upd (fun _ => 0) 0 (iI 100)))), (r7 1, .inl (cl 0, 3, .inl (fun _ => 0))), (r7 2, .inl (cl 0, 3, .inl (fun _ => 0))), (r7 3, .inl (cl 0, 3, .inl (fun _ => 0))), (q17, .inl (cl 3, 12, .inr (.inr (.inr (.inr (fun _ => none)))))), (q26, .inl (cl 0, 40, .inl (fun _ => 0))), (q34, .inl (cl 0, 40, .inl (fun _ => 0))), (q42, .inl (cl 0, 40, .inl (fun _ => 0))), (q50, .inl (cl 1, 40, .inl (fun _ => 0))), (q58, .inl (cl 0, 8, .inl (fun _ => 0))), (q66, .inl (cl 0, 8, .inl (fun _ => 0))), (q74, .inl (cl 0, 8, .inl (fun _ => 0)))] 13 212 96 [some (.ref h0), some (.int (iI 0))] []
  refine b_ald0 C (pc := 96) d_F_init_96 ?_
  refine b_get C (pc := 97) (q0 := 0) rfl rfl (tb_lay lay_F) 0 (by decide) k_93 rfl (v := .ref q7) rfl d_F_init_97 ?_
  refine b_ild1 C (pc := 100) d_F_init_100 ?_
  refine b_aldA C (pc := 101) (q0 := 1) (v := .ref (r7 0)) rfl (by decide) (by decide) (by decide) rfl d_F_init_101 ?_
  refine b_iconst C (pc := 102) d_F_init_102 ?_
  refine b_iconst C (pc := 103) d_F_init_103 ?_
  refine b_iast C (pc := 104) (q0 := 2) rfl (by decide) (by decide) (by decide) d_F_init_104 ?_
  show VB G [(h0, .inr (1, [.ref q7, .ref q17, .int 0, .int 0, .ref q26, .ref q34, .ref q42, .ref q50, .int 0, .ref q58, .ref q66, .ref q74, .int 0, .int 0, .int 0])), (q7, .inl (cl 4, 4, .inr (.inr (.inr (.inr (fun i => some (r7 i))))))), (r7 0, .inl (cl 0, 3, .inl (upd (upd (fun _ => 0) 0 (iI 100)) 2 (iI 1)))), (r7 1, .inl (cl 0, 3, .inl (fun _ => 0))), (r7 2, .inl (cl 0, 3, .inl (fun _ => 0))), (r7 3, .inl (cl 0, 3, .inl (fun _ => 0))), (q17, .inl (cl 3, 12, .inr (.inr (.inr (.inr (fun _ => none)))))), (q26, .inl (cl 0, 40, .inl (fun _ => 0))), (q34, .inl (cl 0, 40, .inl (fun _ => 0))), (q42, .inl (cl 0, 40, .inl (fun _ => 0))), (q50, .inl (cl 1, 40, .inl (fun _ => 0))), (q58, .inl (cl 0, 8, .inl (fun _ => 0))), (q66, .inl (cl 0, 8, .inl (fun _ => 0))), (q74, .inl (cl 0, 8, .inl (fun _ => 0)))] 13 212 105 [some (.ref h0), some (.int (iI 0))] []
  refine b_iinc1 C (pc := 105) rfl d_F_init_105 ?_
  show VB G [(h0, .inr (1, [.ref q7, .ref q17, .int 0, .int 0, .ref q26, .ref q34, .ref q42, .ref q50, .int 0, .ref q58, .ref q66, .ref q74, .int 0, .int 0, .int 0])), (q7, .inl (cl 4, 4, .inr (.inr (.inr (.inr (fun i => some (r7 i))))))), (r7 0, .inl (cl 0, 3, .inl (upd (upd (fun _ => 0) 0 (iI 100)) 2 (iI 1)))), (r7 1, .inl (cl 0, 3, .inl (fun _ => 0))), (r7 2, .inl (cl 0, 3, .inl (fun _ => 0))), (r7 3, .inl (cl 0, 3, .inl (fun _ => 0))), (q17, .inl (cl 3, 12, .inr (.inr (.inr (.inr (fun _ => none)))))), (q26, .inl (cl 0, 40, .inl (fun _ => 0))), (q34, .inl (cl 0, 40, .inl (fun _ => 0))), (q42, .inl (cl 0, 40, .inl (fun _ => 0))), (q50, .inl (cl 1, 40, .inl (fun _ => 0))), (q58, .inl (cl 0, 8, .inl (fun _ => 0))), (q66, .inl (cl 0, 8, .inl (fun _ => 0))), (q74, .inl (cl 0, 8, .inl (fun _ => 0)))] 13 212 108 [some (.ref h0), some (.int (iI 1))] []
  refine b_goto C (pc := 108) (tgt := 81) d_F_init_108 (by decide) ?_
  refine b_ild1 C (pc := 81) d_F_init_81 ?_
  refine b_iconst C (pc := 82) d_F_init_82 ?_
  refine b_icmp_ge C (pc := 83) (tgt := 111) (by decide) (by decide) d_F_init_83 (by decide) (fun q => absurd q (by decide)) (fun _ => ?_)
  refine b_ald0 C (pc := 86) d_F_init_86 ?_
  refine b_get C (pc := 87) (q0 := 0) rfl rfl (tb_lay lay_F) 0 (by decide) k_93 rfl (v := .ref q7) rfl d_F_init_87 ?_
  refine b_ild1 C (pc := 90) d_F_init_90 ?_
  refine b_aldA C (pc := 91) (q0 := 1) (v := .ref (r7 1)) rfl (by decide) (by decide) (by decide) rfl d_F_init_91 ?_
  refine b_iconst C (pc := 92) d_F_init_92 ?_
  refine b_bipush C (pc := 93) (n := 100) rfl d_F_init_93 ?_
  refine b_iast C (pc := 95) (q0 := 3) rfl (by decide) (by decide) (by decide) d_F_init_95 ?_
  show VB G [(h0, .inr (1, [.ref q7, .ref q17, .int 0, .int 0, .ref q26, .ref q34, .ref q42, .ref q50, .int 0, .ref q58, .ref q66, .ref q74, .int 0, .int 0, .int 0])), (q7, .inl (cl 4, 4, .inr (.inr (.inr (.inr (fun i => some (r7 i))))))), (r7 0, .inl (cl 0, 3, .inl (upd (upd (fun _ => 0) 0 (iI 100)) 2 (iI 1)))), (r7 1, .inl (cl 0, 3, .inl (upd (fun _ => 0) 0 (iI 100)))), (r7 2, .inl (cl 0, 3, .inl (fun _ => 0))), (r7 3, .inl (cl 0, 3, .inl (fun _ => 0))), (q17, .inl (cl 3, 12, .inr (.inr (.inr (.inr (fun _ => none)))))), (q26, .inl (cl 0, 40, .inl (fun _ => 0))), (q34, .inl (cl 0, 40, .inl (fun _ => 0))), (q42, .inl (cl 0, 40, .inl (fun _ => 0))), (q50, .inl (cl 1, 40, .inl (fun _ => 0))), (q58, .inl (cl 0, 8, .inl (fun _ => 0))), (q66, .inl (cl 0, 8, .inl (fun _ => 0))), (q74, .inl (cl 0, 8, .inl (fun _ => 0)))] 13 212 96 [some (.ref h0), some (.int (iI 1))] []
  refine b_ald0 C (pc := 96) d_F_init_96 ?_
  refine b_get C (pc := 97) (q0 := 0) rfl rfl (tb_lay lay_F) 0 (by decide) k_93 rfl (v := .ref q7) rfl d_F_init_97 ?_
  refine b_ild1 C (pc := 100) d_F_init_100 ?_
  refine b_aldA C (pc := 101) (q0 := 1) (v := .ref (r7 1)) rfl (by decide) (by decide) (by decide) rfl d_F_init_101 ?_
  refine b_iconst C (pc := 102) d_F_init_102 ?_
  refine b_iconst C (pc := 103) d_F_init_103 ?_
  refine b_iast C (pc := 104) (q0 := 3) rfl (by decide) (by decide) (by decide) d_F_init_104 ?_
  show VB G [(h0, .inr (1, [.ref q7, .ref q17, .int 0, .int 0, .ref q26, .ref q34, .ref q42, .ref q50, .int 0, .ref q58, .ref q66, .ref q74, .int 0, .int 0, .int 0])), (q7, .inl (cl 4, 4, .inr (.inr (.inr (.inr (fun i => some (r7 i))))))), (r7 0, .inl (cl 0, 3, .inl (upd (upd (fun _ => 0) 0 (iI 100)) 2 (iI 1)))), (r7 1, .inl (cl 0, 3, .inl (upd (upd (fun _ => 0) 0 (iI 100)) 2 (iI 1)))), (r7 2, .inl (cl 0, 3, .inl (fun _ => 0))), (r7 3, .inl (cl 0, 3, .inl (fun _ => 0))), (q17, .inl (cl 3, 12, .inr (.inr (.inr (.inr (fun _ => none)))))), (q26, .inl (cl 0, 40, .inl (fun _ => 0))), (q34, .inl (cl 0, 40, .inl (fun _ => 0))), (q42, .inl (cl 0, 40, .inl (fun _ => 0))), (q50, .inl (cl 1, 40, .inl (fun _ => 0))), (q58, .inl (cl 0, 8, .inl (fun _ => 0))), (q66, .inl (cl 0, 8, .inl (fun _ => 0))), (q74, .inl (cl 0, 8, .inl (fun _ => 0)))] 13 212 105 [some (.ref h0), some (.int (iI 1))] []
  refine b_iinc1 C (pc := 105) rfl d_F_init_105 ?_
  show VB G [(h0, .inr (1, [.ref q7, .ref q17, .int 0, .int 0, .ref q26, .ref q34, .ref q42, .ref q50, .int 0, .ref q58, .ref q66, .ref q74, .int 0, .int 0, .int 0])), (q7, .inl (cl 4, 4, .inr (.inr (.inr (.inr (fun i => some (r7 i))))))), (r7 0, .inl (cl 0, 3, .inl (upd (upd (fun _ => 0) 0 (iI 100)) 2 (iI 1)))), (r7 1, .inl (cl 0, 3, .inl (upd (upd (fun _ => 0) 0 (iI 100)) 2 (iI 1)))), (r7 2, .inl (cl 0, 3, .inl (fun _ => 0))), (r7 3, .inl (cl 0, 3, .inl (fun _ => 0))), (q17, .inl (cl 3, 12, .inr (.inr (.inr (.inr (fun _ => none)))))), (q26, .inl (cl 0, 40, .inl (fun _ => 0))), (q34, .inl (cl 0, 40, .inl (fun _ => 0))), (q42, .inl (cl 0, 40, .inl (fun _ => 0))), (q50, .inl (cl 1, 40, .inl (fun _ => 0))), (q58, .inl (cl 0, 8, .inl (fun _ => 0))), (q66, .inl (cl 0, 8, .inl (fun _ => 0))), (q74, .inl (cl 0, 8, .inl (fun _ => 0)))] 13 212 108 [some (.ref h0), some (.int (iI 2))] []
  refine b_goto C (pc := 108) (tgt := 81) d_F_init_108 (by decide) ?_
  refine b_ild1 C (pc := 81) d_F_init_81 ?_
  refine b_iconst C (pc := 82) d_F_init_82 ?_
  refine b_icmp_ge C (pc := 83) (tgt := 111) (by decide) (by decide) d_F_init_83 (by decide) (fun q => absurd q (by decide)) (fun _ => ?_)
  refine b_ald0 C (pc := 86) d_F_init_86 ?_
  refine b_get C (pc := 87) (q0 := 0) rfl rfl (tb_lay lay_F) 0 (by decide) k_93 rfl (v := .ref q7) rfl d_F_init_87 ?_
  refine b_ild1 C (pc := 90) d_F_init_90 ?_
  refine b_aldA C (pc := 91) (q0 := 1) (v := .ref (r7 2)) rfl (by decide) (by decide) (by decide) rfl d_F_init_91 ?_
  refine b_iconst C (pc := 92) d_F_init_92 ?_
  refine b_bipush C (pc := 93) (n := 100) rfl d_F_init_93 ?_
  refine b_iast C (pc := 95) (q0 := 4) rfl (by decide) (by decide) (by decide) d_F_init_95 ?_
  show VB G [(h0, .inr (1, [.ref q7, .ref q17, .int 0, .int 0, .ref q26, .ref q34, .ref q42, .ref q50, .int 0, .ref q58, .ref q66, .ref q74, .int 0, .int 0, .int 0])), (q7, .inl (cl 4, 4, .inr (.inr (.inr (.inr (fun i => some (r7 i))))))), (r7 0, .inl (cl 0, 3, .inl (upd (upd (fun _ => 0) 0 (iI 100)) 2 (iI 1)))), (r7 1, .inl (cl 0, 3, .inl (upd (upd (fun _ => 0) 0 (iI 100)) 2 (iI 1)))), (r7 2, .inl (cl 0, 3, .inl (upd (fun _ => 0) 0 (iI 100)))), (r7 3, .inl (cl 0, 3, .inl (fun _ => 0))), (q17, .inl (cl 3, 12, .inr (.inr (.inr (.inr (fun _ => none)))))), (q26, .inl (cl 0, 40, .inl (fun _ => 0))), (q34, .inl (cl 0, 40, .inl (fun _ => 0))), (q42, .inl (cl 0, 40, .inl (fun _ => 0))), (q50, .inl (cl 1, 40, .inl (fun _ => 0))), (q58, .inl (cl 0, 8, .inl (fun _ => 0))), (q66, .inl (cl 0, 8, .inl (fun _ => 0))), (q74, .inl (cl 0, 8, .inl (fun _ => 0)))] 13 212 96 [some (.ref h0), some (.int (iI 2))] []
  refine b_ald0 C (pc := 96) d_F_init_96 ?_
  refine b_get C (pc := 97) (q0 := 0) rfl rfl (tb_lay lay_F) 0 (by decide) k_93 rfl (v := .ref q7) rfl d_F_init_97 ?_
  refine b_ild1 C (pc := 100) d_F_init_100 ?_
  refine b_aldA C (pc := 101) (q0 := 1) (v := .ref (r7 2)) rfl (by decide) (by decide) (by decide) rfl d_F_init_101 ?_
  refine b_iconst C (pc := 102) d_F_init_102 ?_
  refine b_iconst C (pc := 103) d_F_init_103 ?_
  refine b_iast C (pc := 104) (q0 := 4) rfl (by decide) (by decide) (by decide) d_F_init_104 ?_
  show VB G [(h0, .inr (1, [.ref q7, .ref q17, .int 0, .int 0, .ref q26, .ref q34, .ref q42, .ref q50, .int 0, .ref q58, .ref q66, .ref q74, .int 0, .int 0, .int 0])), (q7, .inl (cl 4, 4, .inr (.inr (.inr (.inr (fun i => some (r7 i))))))), (r7 0, .inl (cl 0, 3, .inl (upd (upd (fun _ => 0) 0 (iI 100)) 2 (iI 1)))), (r7 1, .inl (cl 0, 3, .inl (upd (upd (fun _ => 0) 0 (iI 100)) 2 (iI 1)))), (r7 2, .inl (cl 0, 3, .inl (upd (upd (fun _ => 0) 0 (iI 100)) 2 (iI 1)))), (r7 3, .inl (cl 0, 3, .inl (fun _ => 0))), (q17, .inl (cl 3, 12, .inr (.inr (.inr (.inr (fun _ => none)))))), (q26, .inl (cl 0, 40, .inl (fun _ => 0))), (q34, .inl (cl 0, 40, .inl (fun _ => 0))), (q42, .inl (cl 0, 40, .inl (fun _ => 0))), (q50, .inl (cl 1, 40, .inl (fun _ => 0))), (q58, .inl (cl 0, 8, .inl (fun _ => 0))), (q66, .inl (cl 0, 8, .inl (fun _ => 0))), (q74, .inl (cl 0, 8, .inl (fun _ => 0)))] 13 212 105 [some (.ref h0), some (.int (iI 2))] []
  refine b_iinc1 C (pc := 105) rfl d_F_init_105 ?_
  show VB G [(h0, .inr (1, [.ref q7, .ref q17, .int 0, .int 0, .ref q26, .ref q34, .ref q42, .ref q50, .int 0, .ref q58, .ref q66, .ref q74, .int 0, .int 0, .int 0])), (q7, .inl (cl 4, 4, .inr (.inr (.inr (.inr (fun i => some (r7 i))))))), (r7 0, .inl (cl 0, 3, .inl (upd (upd (fun _ => 0) 0 (iI 100)) 2 (iI 1)))), (r7 1, .inl (cl 0, 3, .inl (upd (upd (fun _ => 0) 0 (iI 100)) 2 (iI 1)))), (r7 2, .inl (cl 0, 3, .inl (upd (upd (fun _ => 0) 0 (iI 100)) 2 (iI 1)))), (r7 3, .inl (cl 0, 3, .inl (fun _ => 0))), (q17, .inl (cl 3, 12, .inr (.inr (.inr (.inr (fun _ => none)))))), (q26, .inl (cl 0, 40, .inl (fun _ => 0))), (q34, .inl (cl 0, 40, .inl (fun _ => 0))), (q42, .inl (cl 0, 40, .inl (fun _ => 0))), (q50, .inl (cl 1, 40, .inl (fun _ => 0))), (q58, .inl (cl 0, 8, .inl (fun _ => 0))), (q66, .inl (cl 0, 8, .inl (fun _ => 0))), (q74, .inl (cl 0, 8, .inl (fun _ => 0)))] 13 212 108 [some (.ref h0), some (.int (iI 3))] []
  refine b_goto C (pc := 108) (tgt := 81) d_F_init_108 (by decide) ?_
  refine b_ild1 C (pc := 81) d_F_init_81 ?_
  refine b_iconst C (pc := 82) d_F_init_82 ?_
  refine b_icmp_ge C (pc := 83) (tgt := 111) (by decide) (by decide) d_F_init_83 (by decide) (fun q => absurd q (by decide)) (fun _ => ?_)
  refine b_ald0 C (pc := 86) d_F_init_86 ?_
  refine b_get C (pc := 87) (q0 := 0) rfl rfl (tb_lay lay_F) 0 (by decide) k_93 rfl (v := .ref q7) rfl d_F_init_87 ?_
  refine b_ild1 C (pc := 90) d_F_init_90 ?_
  refine b_aldA C (pc := 91) (q0 := 1) (v := .ref (r7 3)) rfl (by decide) (by decide) (by decide) rfl d_F_init_91 ?_
  refine b_iconst C (pc := 92) d_F_init_92 ?_
  refine b_bipush C (pc := 93) (n := 100) rfl d_F_init_93 ?_
  refine b_iast C (pc := 95) (q0 := 5) rfl (by decide) (by decide) (by decide) d_F_init_95 ?_
  show VB G [(h0, .inr (1, [.ref q7, .ref q17, .int 0, .int 0, .ref q26, .ref q34, .ref q42, .ref q50, .int 0, .ref q58, .ref q66, .ref q74, .int 0, .int 0, .int 0])), (q7, .inl (cl 4, 4, .inr (.inr (.inr (.inr (fun i => some (r7 i))))))), (r7 0, .inl (cl 0, 3, .inl (upd (upd (fun _ => 0) 0 (iI 100)) 2 (iI 1)))), (r7 1, .inl (cl 0, 3, .inl (upd (upd (fun _ => 0) 0 (iI 100)) 2 (iI 1)))), (r7 2, .inl (cl 0, 3, .inl (upd (upd (fun _ => 0) 0 (iI 100)) 2 (iI 1)))), (r7 3, .inl (cl 0, 3, .inl (upd (fun _ => 0) 0 (iI 100)))), (q17, .inl (cl 3, 12, .inr (.inr (.inr (.inr (fun _ => none)))))), (q26, .inl (cl 0, 40, .inl (fun _ => 0))), (q34, .inl (cl 0, 40, .inl (fun _ => 0))), (q42, .inl (cl 0, 40, .inl (fun _ => 0))), (q50, .inl (cl 1, 40, .inl (fun _ => 0))), (q58, .inl (cl 0, 8, .inl (fun _ => 0))), (q66, .inl (cl 0, 8, .inl (fun _ => 0))), (q74, .inl (cl 0, 8, .inl (fun _ => 0)))] 13 212 96 [some (.ref h0), some (.int (iI 3))] []
  refine b_ald0 C (pc := 96) d_F_init_96 ?_
  refine b_get C (pc := 97) (q0 := 0) rfl rfl (tb_lay lay_F) 0 (by decide) k_93 rfl (v := .ref q7) rfl d_F_init_97 ?_
  refine b_ild1 C (pc := 100) d_F_init_100 ?_
  refine b_aldA C (pc := 101) (q0 := 1) (v := .ref (r7 3)) rfl (by decide) (by decide) (by decide) rfl d_F_init_101 ?_
  refine b_iconst C (pc := 102) d_F_init_102 ?_
  refine b_iconst C (pc := 103) d_F_init_103 ?_
  refine b_iast C (pc := 104) (q0 := 5) rfl (by decide) (by decide) (by decide) d_F_init_104 ?_
  show VB G [(h0, .inr (1, [.ref q7, .ref q17, .int 0, .int 0, .ref q26, .ref q34, .ref q42, .ref q50, .int 0, .ref q58, .ref q66, .ref q74, .int 0, .int 0, .int 0])), (q7, .inl (cl 4, 4, .inr (.inr (.inr (.inr (fun i => some (r7 i))))))), (r7 0, .inl (cl 0, 3, .inl (upd (upd (fun _ => 0) 0 (iI 100)) 2 (iI 1)))), (r7 1, .inl (cl 0, 3, .inl (upd (upd (fun _ => 0) 0 (iI 100)) 2 (iI 1)))), (r7 2, .inl (cl 0, 3, .inl (upd (upd (fun _ => 0) 0 (iI 100)) 2 (iI 1)))), (r7 3, .inl (cl 0, 3, .inl (upd (upd (fun _ => 0) 0 (iI 100)) 2 (iI 1)))), (q17, .inl (cl 3, 12, .inr (.inr (.inr (.inr (fun _ => none)))))), (q26, .inl (cl 0, 40, .inl (fun _ => 0))), (q34, .inl (cl 0, 40, .inl (fun _ => 0))), (q42, .inl (cl 0, 40, .inl (fun _ => 0))), (q50, .inl (cl 1, 40, .inl (fun _ => 0))), (q58, .inl (cl 0, 8, .inl (fun _ => 0))), (q66, .inl (cl 0, 8, .inl (fun _ => 0))), (q74, .inl (cl 0, 8, .inl (fun _ => 0)))] 13 212 105 [some (.ref h0), some (.int (iI 3))] []
  refine b_iinc1 C (pc := 105) rfl d_F_init_105 ?_
  show VB G [(h0, .inr (1, [.ref q7, .ref q17, .int 0, .int 0, .ref q26, .ref q34, .ref q42, .ref q50, .int 0, .ref q58, .ref q66, .ref q74, .int 0, .int 0, .int 0])), (q7, .inl (cl 4, 4, .inr (.inr (.inr (.inr (fun i => some (r7 i))))))), (r7 0, .inl (cl 0, 3, .inl (upd (upd (fun _ => 0) 0 (iI 100)) 2 (iI 1)))), (r7 1, .inl (cl 0, 3, .inl (upd (upd (fun _ => 0) 0 (iI 100)) 2 (iI 1)))), (r7 2, .inl (cl 0, 3, .inl (upd (upd (fun _ => 0) 0 (iI 100)) 2 (iI 1)))), (r7 3, .inl (cl 0, 3, .inl (upd (upd (fun _ => 0) 0 (iI 100)) 2 (iI 1)))), (q17, .inl (cl 3, 12, .inr (.inr (.inr (.inr (fun _ => none)))))), (q26, .inl (cl 0, 40, .inl (fun _ => 0))), (q34, .inl (cl 0, 40, .inl (fun _ => 0))), (q42, .inl (cl 0, 40, .inl (fun _ => 0))), (q50, .inl (cl 1, 40, .inl (fun _ => 0))), (q58, .inl (cl 0, 8, .inl (fun _ => 0))), (q66, .inl (cl 0, 8, .inl (fun _ => 0))), (q74, .inl (cl 0, 8, .inl (fun _ => 0)))] 13 212 108 [some (.ref h0), some (.int (iI 4))] []
  refine b_goto C (pc := 108) (tgt := 81) d_F_init_108 (by decide) ?_
  refine b_ild1 C (pc := 81) d_F_init_81 ?_
  refine b_iconst C (pc := 82) d_F_init_82 ?_
  refine b_icmp_ge C (pc := 83) (tgt := 111) (by decide) (by decide) d_F_init_83 (by decide) (fun _ => ?_) (fun q => absurd (by decide) q)
  refine b_iconst C (pc := 111) d_F_init_111 ?_
  refine b_ist1 C (pc := 112) rfl d_F_init_112 ?_
  show VB G [(h0, .inr (1, [.ref q7, .ref q17, .int 0, .int 0, .ref q26, .ref q34, .ref q42, .ref q50, .int 0, .ref q58, .ref q66, .ref q74, .int 0, .int 0, .int 0])), (q7, .inl (cl 4, 4, .inr (.inr (.inr (.inr (fun i => some (r7 i))))))), (r7 0, .inl (cl 0, 3, .inl (upd (upd (fun _ => 0) 0 (iI 100)) 2 (iI 1)))), (r7 1, .inl (cl 0, 3, .inl (upd (upd (fun _ => 0) 0 (iI 100)) 2 (iI 1)))), (r7 2, .inl (cl 0, 3, .inl (upd (upd (fun _ => 0) 0 (iI 100)) 2 (iI 1)))), (r7 3, .inl (cl 0, 3, .inl (upd (upd (fun _ => 0) 0 (iI 100)) 2 (iI 1)))), (q17, .inl (cl 3, 12, .inr (.inr (.inr (.inr (fun _ => none)))))), (q26, .inl (cl 0, 40, .inl (fun _ => 0))), (q34, .inl (cl 0, 40, .inl (fun _ => 0))), (q42, .inl (cl 0, 40, .inl (fun _ => 0))), (q50, .inl (cl 1, 40, .inl (fun _ => 0))), (q58, .inl (cl 0, 8, .inl (fun _ => 0))), (q66, .inl (cl 0, 8, .inl (fun _ => 0))), (q74, .inl (cl 0, 8, .inl (fun _ => 0)))] 13 212 113 [some (.ref h0), some (.int (iI 0))] []
  show VB G (FZ cl h0 q17 [.ref q7, .ref q17, .int 0, .int 0, .ref q26, .ref q34, .ref q42, .ref q50, .int 0, .ref q58, .ref q66, .ref q74, .int 0, .int 0, .int 0] [(q7, .inl (cl 4, 4, .inr (.inr (.inr (.inr (fun i => some (r7 i))))))), (r7 0, .inl (cl 0, 3, .inl (upd (upd (fun _ => 0) 0 (iI 100)) 2 (iI 1)))), (r7 1, .inl (cl 0, 3, .inl (upd (upd (fun _ => 0) 0 (iI 100)) 2 (iI 1)))), (r7 2, .inl (cl 0, 3, .inl (upd (upd (fun _ => 0) 0 (iI 100)) 2 (iI 1)))), (r7 3, .inl (cl 0, 3, .inl (upd (upd (fun _ => 0) 0 (iI 100)) 2 (iI 1))))] [(q26, .inl (cl 0, 40, .inl (fun _ => 0))), (q34, .inl (cl 0, 40, .inl (fun _ => 0))), (q42, .inl (cl 0, 40, .inl (fun _ => 0))), (q50, .inl (cl 1, 40, .inl (fun _ => 0))), (q58, .inl (cl 0, 8, .inl (fun _ => 0))), (q66, .inl (cl 0, 8, .inl (fun _ => 0))), (q74, .inl (cl 0, 8, .inl (fun _ => 0)))] [] (fun _ => none)) 13 212 113 [some (.ref h0), some (.int (iI ((0 : Nat) : Int)))] []
  refine F_loop C (cn := 13) (sn := 212) rfl (by decide) (by decide) (fun ad => ?_) 12 0 (fun _ _ => 0) rfl
  refine b_ref (q0 := 6) (g := fun t => some (ad t 0)) FZ_b (fun i hi => if_pos hi) ?_
  refine b_ret C (pc := 138) hq (by decide) (by decide) ⟨q7, r7, q17, q26, q34, q42, q50, q58, q66, q74, ad, ?_⟩ d_F_init_138
  exact FZ_set (X := [_, _, _, _, _])
