/-! the picture of a side's memory: cells by number, ints as Int, longs as Int64 -/
def iI (z : Int) : Int32 := Int32.ofInt z
def lI (z : Int) : Int64 := Int64.ofInt z
def zb (P : Prop) [Decidable P] : Int := if P then 1 else 0
abbrev zM : Type := (Nat → Nat → Int) × (Nat → Nat → Int64)
def zI (M : zM) (k i : Nat) (z : Int) : zM := (fun a b => if a = k ∧ b = i then z else M.1 a b, M.2)
def zJ (M : zM) (k i : Nat) (x : Int64) : zM := (M.1, fun a b => if a = k ∧ b = i then x else M.2 a b)
abbrev zE : Type := va_G × (Nat → ClassId) × (Nat → Nat)
/-- a side: how many cells; each one's shape (0 ints, 1 booleans, 2 longs, 3 beams, 4 rows of ints, with a length; 5 and more: an object); an object's fields (0 an int, 2 a long, 6 a cell of that number); what arrays of references hold -/
abbrev zSd : Type := Nat × (Nat → Nat × Nat) × (Nat → List (Nat × Nat)) × (Nat → Nat → Nat)
def fv (E : zE) (I : Nat → Int) (J : Nat → Int64) (d : Nat × Nat) (i : Nat) : Value := if d.1 = 0 then .int (iI (I i)) else if d.1 = 2 then .long (J i) else .ref (E.2.2 d.2)
def fsO (E : zE) (I : Nat → Int) (J : Nat → Int64) (ds : List (Nat × Nat)) : List Value := (List.range ds.length).map (fun i => fv E I J (ds.getD i (6, 0)) i)
def zce (sd : zSd) (E : zE) (M : zM) (k : Nat) : va_E :=
  if (sd.2.1 k).1 = 0 then .inl (E.2.1 0, (sd.2.1 k).2, .inl (fun i => iI (M.1 k i)))
  else if (sd.2.1 k).1 = 1 then .inl (E.2.1 1, (sd.2.1 k).2, .inl (fun i => iI (M.1 k i)))
  else if (sd.2.1 k).1 = 2 then .inl (E.2.1 2, (sd.2.1 k).2, .inr (.inl (fun i => M.2 k i)))
  else if (sd.2.1 k).1 = 3 then .inl (E.2.1 3, (sd.2.1 k).2, .inr (.inr (.inr (.inr (fun i => some (E.2.2 (sd.2.2.2 k i)))))))
  else if (sd.2.1 k).1 = 4 then .inl (E.2.1 4, (sd.2.1 k).2, .inr (.inr (.inr (.inr (fun i => some (E.2.2 (sd.2.2.2 k i)))))))
  else .inr ((sd.2.1 k).1 - 5, fsO E (M.1 k) (M.2 k) (sd.2.2.1 k))
abbrev zG : Type := zSd × zE × (Option Value → zM → Prop) × Launch × Program × Env × Room × State × MethodId × Array Value × List Frame × Method × Code
abbrev zad (G : zG) (k : Nat) : Nat := G.2.1.2.2 k
def tb : List Cond := lw_tbl.filter goodWord
theorem tb_in {w : Cond} (h : w ∈ lw_tbl) (hg : goodWord w = true) : w ∈ tb := List.mem_filter.mpr ⟨h, hg⟩
theorem tb_good : ∀ w ∈ tb, w ∈ tb ∧ ((w.onTables && w.keeps) = true ∨ ∃ ty, w = .arrayClass ty) := fun w h => ⟨h, good_of_word (List.mem_filter.mp h).2⟩
def zN (U : State) : Prop := va_Nw (.methodLinkNest "OldBeams$Frame" 83 ⟨"OldBeams", "isIn", "(II)Z"⟩ "OldBeams") U ∧ va_Nw (.methodLinkNest "OldBeams$Frame" 50 ⟨"OldBeams", "within", "(III)Z"⟩ "OldBeams") U ∧ va_Nw (.methodLinkNest "OldBeams$Frame" 45 ⟨"OldBeams$Beam", "<init>", "()V"⟩ "OldBeams") U ∧ va_Nw (.methodLinkNest "OldBeams" 25 ⟨"OldBeams$Fraction", "<init>", "()V"⟩ "OldBeams") U
theorem zN.warm {s U : State} (hW : s.WarmedH U.vm) (h : zN s) : zN U := ⟨va_Nw.warmM hW h.1, va_Nw.warmM hW h.2.1, va_Nw.warmM hW h.2.2.1, va_Nw.warmM hW h.2.2.2⟩
theorem zN.same {u U : State} (hv : u.vm = U.vm) (h : zN u) : zN U := ⟨va_Nw.same rfl hv h.1, va_Nw.same rfl hv h.2.1, va_Nw.same rfl hv h.2.2.1, va_Nw.same rfl hv h.2.2.2⟩
def zcl : List vw_C := [(RX_O, TX_O, 7), (RX_F, TX_F, 15), (RX_K, TX_K, 9), (RX_Q, TX_Q, 2), (RX_B, TX_B, 13), (RX_M, TX_M, 45)]
def zt (E : zE) : List (ClassId × FieldType) := [(E.2.1 0, .int), (E.2.1 1, .boolean), (E.2.1 2, .long), (E.2.1 3, .object "OldBeams$Beam"), (E.2.1 4, .array .int)]
def zw (sd : zSd) (E : zE) (M : zM) : va_W := (List.range sd.1).map (fun k => (E.2.2 k, zce sd E M k))
def zA (sd : zSd) (E : zE) : Nat → Prop := fun q => ∃ k, k < sd.1 ∧ q = E.2.2 k
theorem zw_at {sd : zSd} {E : zE} {M : zM} {k : Nat} (h : k < sd.1) : (zw sd E M)[k]? = some (E.2.2 k, zce sd E M k) := by
  unfold zw
  rw [List.getElem?_map, List.getElem?_range h]
  rfl
theorem zw_set {sd : zSd} {E : zE} {M M' : zM} {k : Nat} (h : k < sd.1) (hn : ∀ j, j ≠ k → zce sd E M' j = zce sd E M j) : (zw sd E M).set k (E.2.2 k, zce sd E M' k) = zw sd E M' := by
  apply List.ext_getElem?
  intro j
  by_cases hj : j < sd.1
  · by_cases e : j = k
    · subst e
      rw [List.getElem?_set_self (by simp [zw, h]), zw_at hj]
    · rw [List.getElem?_set_ne (fun q => e q.symm), zw_at hj, zw_at hj, hn j e]
  · have l1 : (zw sd E M).length = sd.1 := by simp [zw]
    have l2 : (zw sd E M').length = sd.1 := by simp [zw]
    rw [List.getElem?_eq_none (by rw [List.length_set, l1]; omega), List.getElem?_eq_none (by rw [l2]; omega)]
def zU (sd : zSd) (E : zE) (M : zM) (U : State) : Prop := va_P E.1 zcl (zw sd E M) U.heap ∧ va_D (zA sd E) (zw sd E M) ∧ va_K E.1 zcl (zt E) U ∧ zN U
/-- a method's contract on a side's memory: As the arguments, M the memory, P what comes back -/
def zRm (fr lc : Nat) : Room := { frames := fr, cells := 0, slots := 0, locals := lc }
def zQ (sd : zSd) (E : zE) (P : Option Value → zM → Prop) : Array Value → State → Outcome → State → Prop := fun _ st oc t => (∃ (v : Option Value) (M' : zM), oc = .returned v ∧ P v M' ∧ zU sd E M' t) ∧ va_F (zA sd E) st t
def zK (l : Launch) (sd : zSd) (E : zE) (y : MethodName) (bytes : ByteArray) (maxL : Nat) (ret : Option FieldType) (fr lc : Nat) (As : List Value) (M : zM) (P : Option Value → zM → Prop) : Prop :=
  Met l y (Cond.code y bytes maxL ret :: tb) (zRm fr lc) (va_Pc As (fun U => zU sd E M U)) (zQ sd E P) 0 0 (zA sd E)
def zPi (p : Int → zM → Prop) : Option Value → zM → Prop := fun v M' => ∃ z, v = some (.int (iI z)) ∧ p z M'
def zPl (p : Int64 → zM → Prop) : Option Value → zM → Prop := fun v M' => ∃ x, v = some (.long x) ∧ p x M'
def zPv (p : zM → Prop) : Option Value → zM → Prop := fun v M' => v = none ∧ p M'
/-- the locals, slot by slot -/
def lh (ls : Array Slot) (lo : List (Option Value)) : Prop := ls.size = lo.length ∧ lv_wf ls ∧ ∀ (i : Nat) (v : Value), lo[i]? = some (some v) → ls[i]? = some (.val v)
def zlo : List Value → List (Option Value)
  | [] => []
  | v :: vs => if v.category = 2 then some v :: none :: zlo vs else some v :: zlo vs
def zc1 (o : Option Value) : Bool := match o with
  | none => true
  | some v => v.category == 1
theorem zc1_spec {o : Option Value} (h : zc1 o = true) {v : Value} (hv : o = some v) : v.category = 1 := by
  subst hv
  simpa [zc1] using h
theorem lh_one {ls : Array Slot} {lo : List (Option Value)} (h : lh ls lo) {j : Nat} {w : Value} (hw : lo[j]? = some (some w)) : lv_has ls lo.length [(j, w)] := ⟨h.1, h.2.1, fun q hq => by
  rw [List.mem_singleton.mp hq]
  exact h.2.2 j w hw⟩
theorem lh_nil {ls : Array Slot} {lo : List (Option Value)} (h : lh ls lo) : lv_has ls lo.length [] := ⟨h.1, h.2.1, fun q hq => by cases hq⟩
theorem lh_store1 {ls : Array Slot} {lo : List (Option Value)} {i : Nat} {v : Value} (h : lh ls lo) (hi : i < lo.length) (hc : v.category = 1) (hp : ∀ (j : Nat) (w : Value), j + 1 = i → lo[j]? = some (some w) → w.category = 1) : ∃ ls', storeLocals ls i v = some ls' ∧ lh ls' (lo.set i (some v)) := by
  obtain ⟨ls', e, h'⟩ := lv_store1 (v := v) (lh_nil h) hi hc
  refine ⟨ls', e, by rw [h'.1, List.length_set], h'.2.1, fun j w hw => ?_⟩
  by_cases hj : j = i
  · subst hj
    rw [List.getElem?_set_self hi] at hw
    cases hw
    exact h'.2.2 (j, v) List.mem_cons_self
  · rw [List.getElem?_set_ne (fun q => hj q.symm)] at hw
    obtain ⟨ls2, e2, h2⟩ := lv_store1 (v := v) (lh_one h hw) hi hc
    rw [e] at e2
    cases e2
    refine h2.2.2 (j, w) (List.mem_cons_of_mem _ (List.mem_filter.mpr ⟨List.mem_singleton.mpr rfl, ?_⟩))
    by_cases hj1 : j + 1 = i
    · have := hp j w hj1 hw
      simp [hj, hj1, this]
    · simp [hj, hj1]
theorem lh_store2 {ls : Array Slot} {lo : List (Option Value)} {i : Nat} {v : Value} (h : lh ls lo) (hi : i + 1 < lo.length) (hc : v.category = 2) (hp : ∀ (j : Nat) (w : Value), j + 1 = i → lo[j]? = some (some w) → w.category = 1) : ∃ ls', storeLocals ls i v = some ls' ∧ lh ls' ((lo.set i (some v)).set (i + 1) none) := by
  obtain ⟨ls', e, h'⟩ := lv_store2 (v := v) (lh_nil h) hi hc
  refine ⟨ls', e, by rw [h'.1, List.length_set, List.length_set], h'.2.1, fun j w hw => ?_⟩
  by_cases hj2 : j = i + 1
  · subst hj2
    rw [List.getElem?_set_self (by rw [List.length_set]; exact hi)] at hw
    cases hw
  · rw [List.getElem?_set_ne (fun q => hj2 q.symm)] at hw
    by_cases hj : j = i
    · subst hj
      rw [List.getElem?_set_self (by omega)] at hw
      cases hw
      exact h'.2.2 (j, v) List.mem_cons_self
    · rw [List.getElem?_set_ne (fun q => hj q.symm)] at hw
      obtain ⟨ls2, e2, h2⟩ := lv_store2 (v := v) (lh_one h hw) hi hc
      rw [e] at e2
      cases e2
      refine h2.2.2 (j, w) (List.mem_cons_of_mem _ (List.mem_filter.mpr ⟨List.mem_singleton.mpr rfl, ?_⟩))
      by_cases hj1 : j + 1 = i
      · have := hp j w hj1 hw
        simp [hj, hj1, hj2, this]
      · simp [hj, hj1, hj2]
theorem zlo_args : ∀ (vs : List Value) (k j : Nat) (w : Value), (zlo vs)[j]? = some (some w) → (k + j, w) ∈ lv_args k vs
  | [], k, j, w, h => by simp [zlo] at h
  | v :: vs, k, j, w, h => by
    unfold zlo at h
    unfold lv_args
    by_cases hc : v.category = 2
    · rw [if_pos hc] at h ⊢
      match j, h with
      | 0, h => cases h; exact List.mem_cons_self
      | 1, h => cases h
      | j + 2, h =>
        refine List.mem_cons_of_mem _ ?_
        have := zlo_args vs (k + 2) j w (by simpa using h)
        rwa [show k + 2 + j = k + (j + 2) by omega] at this
    · rw [if_neg hc] at h ⊢
      match j, h with
      | 0, h => cases h; exact List.mem_cons_self
      | j + 1, h =>
        refine List.mem_cons_of_mem _ ?_
        have := zlo_args vs (k + 1) j w (by simpa using h)
        rwa [show k + 1 + j = k + (j + 1) by omega] at this
theorem zlo_len : ∀ vs : List Value, (zlo vs).length = (lg_sl vs).length
  | [] => rfl
  | v :: vs => by
    have ih := zlo_len vs
    unfold zlo
    by_cases hc : v.category = 2
    · rw [if_pos hc]
      simp [lg_sl, hc] at ih ⊢
      omega
    · rw [if_neg hc]
      simp [lg_sl, hc] at ih ⊢
      omega
theorem lh_entry {vs : List Value} {n : Nat} (h : (zlo vs).length ≤ n) : lh ((lg_sl vs ++ List.replicate (n - (lg_sl vs).length) Slot.unset).toArray) (zlo vs ++ List.replicate (n - (zlo vs).length) none) := by
  have hv := lv_entry vs (n := n) (by rw [← zlo_len]; exact h)
  refine ⟨?_, hv.2.1, fun i v hi => ?_⟩
  · rw [hv.1, List.length_append, List.length_replicate]
    omega
  · by_cases hl : i < (zlo vs).length
    · rw [List.getElem?_append_left hl] at hi
      have := zlo_args vs 0 i v hi
      rw [Nat.zero_add] at this
      exact hv.2.2 _ this
    · rw [List.getElem?_append_right (by omega)] at hi
      have := List.eq_of_mem_replicate (List.mem_of_getElem? hi)
      cases this
/-- the judgement: from memory M, at pc, with these locals and this stack, the method comes to its end as its contract says -/
def VJ (G : zG) (M : zM) (pc : Nat) (lo : List (Option Value)) (st : List Value) : Prop := match G with
  | (sd, E, P, l, p, e, R, s, m, args, below, meth, c) => ∀ (H : Heap) (locs : List Loc) (ls : Array Slot), va_P E.1 zcl (zw sd E M) H → va_D (zA sd E) (zw sd E M) → va_S (zA sd E) s.heap H locs → lh ls lo → W p l e R s m args below meth c H locs 0 0 (MQ below (zQ sd E P) args s 0 0 (zA sd E)) (F0 m pc ls st)
def zC (G : zG) (cc : ByteArray) (own : String) (ret : Option FieldType) (nL fr lc : Nat) : Prop := match G with
  | (sd, E, P, l, p, e, R, s, m, args, below, meth, c) => p.tables.exec = Jvm.exec ∧ c.code = cc ∧ meth.sig.returnType = ret ∧ c.maxLocals = nL ∧ s.vm.findClass own = some m.cls ∧ (∀ w ∈ tb, w.before args s = true) ∧ va_K E.1 zcl (zt E) s ∧ zN s ∧ meth.locks = false ∧ R = zRm fr lc
theorem zK.of {l : Launch} {sd : zSd} {E : zE} {y : MethodName} {bytes : ByteArray} {maxL : Nat} {ret : Option FieldType} {fr lc : Nat} {As : List Value} {M : zM} {P : Option Value → zM → Prop} (own : String) (ho : y.cls = own) (hy : plainName y.cls = true) (hlen : (zlo As).length ≤ maxL)
    (body : ∀ G : zG, G.1 = sd → G.2.1 = E → G.2.2.1 = P → G.2.2.2.1 = l → zC G bytes own ret maxL fr lc → VJ G M 0 (zlo As ++ List.replicate (maxL - (zlo As).length) none) []) : zK l sd E y bytes maxL ret fr lc As M P := by
  refine Met.ofW (cc := bytes) (maxL := maxL) (ret := ret) hy rfl ?_
  intro p e s m args below meth c s₁ B hml hv
  obtain ⟨rfl, hP, hD, hK, hN⟩ := hv
  have hts := atoms_spec (ws := Cond.code y bytes maxL ret :: tb) B.pre
  have hown : s.vm.findClass own = some m.cls := ho ▸ findClass_of_methodNamed B.named
  have hb := body (sd, E, P, l, p, e, (headSpec (Cond.code y bytes maxL ret :: tb) (zRm fr lc)).room, s, m, As.toArray, below, meth, c) rfl rfl rfl rfl ⟨B.exec, B.bytes, B.returns, hml, hown, fun w hw => hts w (List.mem_cons_of_mem _ hw), hK, hN, B.notSynchronized, rfl⟩
  rw [lg_entry_eq]
  exact hb s.heap [] _ hP hD va_S.rf (lh_entry hlen)
