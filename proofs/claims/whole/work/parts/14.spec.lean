/-! What both sides reckon, over one picture S of the state: S.1 counts (0 beams, 1 loads, 2 looks, 3 props); S.2 f i j the numbers: 1 kinds (grade, rot dry, rot wet); 2 beams (kind, length, width, height, wet, fallen); 3, 4, 5 seats (place, on, where); 6 loads (beam, place, weight, on); 7 props (beam, place, push, set); 8 weights; 9 tools; 10 looks (beam, tool, outcome, year); 11 prices -/
abbrev zS : Type := (Nat → Nat) × (Nat → Nat → Nat → Int)
def uS (S : zS) (f i j : Nat) (v : Int) : zS := (S.1, fun a b c => if a = f ∧ b = i ∧ c = j then v else S.2 a b c)
def uN (S : zS) (k n : Nat) : zS := (fun a => if a = k then n else S.1 a, S.2)
theorem uS_at (S : zS) (f i j a b c : Nat) (v : Int) : (uS S f i j v).2 a b c = if a = f ∧ b = i ∧ c = j then v else S.2 a b c := rfl
theorem uS_1 (S : zS) (f i j : Nat) (v : Int) : (uS S f i j v).1 = S.1 := rfl
theorem uN_at (S : zS) (k n a : Nat) : (uN S k n).1 a = if a = k then n else S.1 a := rfl
theorem uN_2 (S : zS) (k n : Nat) : (uN S k n).2 = S.2 := rfl
-- sums
def sm (g : Nat → Int64) : Nat → Int64
  | 0 => 0
  | c + 1 => sm g c + g c
theorem sm_cong {f g : Nat → Int64} : ∀ {n : Nat}, (∀ k, k < n → f k = g k) → sm f n = sm g n
  | 0, _ => rfl
  | n + 1, h => by rw [sm, sm, sm_cong (fun k hk => h k (by omega)), h n (by omega)]
def ab (x : Int64) : Int64 := if x < 0 then -x else x
def fdv (a b : Int64) : Int64 := if a - a / b * b < 0 then a / b - 1 else a / b
-- what is down, if those of fal have fallen: k beams looked at
def dn (S : zS) (fal : Nat → Bool) : Nat → Nat → Bool
  | 0, _ => false
  | k + 1, j => if j = k then (fal k || (decide (S.2 4 k 0 ≠ -900009) && dn S fal k (S.2 4 k 0).toNat)) || (decide (S.2 4 k 1 ≠ -900009) && dn S fal k (S.2 4 k 1).toNat) else dn S fal k j
def dA (S : zS) (fal : Nat → Bool) : Nat → Bool := dn S fal (S.1 0)
def flS (S : zS) : Nat → Bool := fun b => decide (S.2 2 b 5 = 1)
def psS (S : zS) : Nat → Bool := fun p => decide (S.2 7 p 3 = 1)
def dcnt (d : Nat → Bool) : Nat → Nat
  | 0 => 0
  | n + 1 => dcnt d n + (if d n then 1 else 0)
-- forces
def fL (S : zS) : Nat → Nat → Nat → Int64
  | 0 => fun _ _ => 0
  | l + 1 => fun b x => fL S l b x + (if S.2 6 l 0 = (b : Int) ∧ S.2 6 l 1 = (x : Int) ∧ S.2 6 l 3 = 1 then lI (S.2 6 l 2) else 0)
def fP (S : zS) (ps : Nat → Bool) : Nat → Nat → Nat → Int64
  | 0 => fL S (S.1 1)
  | p + 1 => fun b x => fP S ps p b x - (if S.2 7 p 0 = (b : Int) ∧ S.2 7 p 1 = (x : Int) ∧ ps p = true then lI (S.2 7 p 2) else 0)
def tu (S : zS) (F : Nat → Nat → Int64) (b : Nat) : Int64 := sm (fun x => F b x * lI ((x : Int) - S.2 3 b 0)) ((S.2 2 b 1).toNat + 1)
def p1 (S : zS) (F : Nat → Nat → Int64) (b : Nat) : Int64 := fdv (tu S F b) (lI (S.2 3 b 1 - S.2 3 b 0))
def p0 (S : zS) (F : Nat → Nat → Int64) (b : Nat) : Int64 := sm (F b) ((S.2 2 b 1).toNat + 1) - p1 S F b
def adF (F : Nat → Nat → Int64) (o w : Int) (v : Int64) : Nat → Nat → Int64 := if o = -900009 then F else fun a x => if (a : Int) = o ∧ (x : Int) = w then F a x + v else F a x
def stp (S : zS) (F : Nat → Nat → Int64) (b : Nat) : Nat → Nat → Int64 := adF (adF F (S.2 4 b 0) (S.2 5 b 0) (p0 S F b)) (S.2 4 b 1) (S.2 5 b 1) (p1 S F b)
def FF (S : zS) (ps dw : Nat → Bool) : Nat → Nat → Nat → Int64
  | 0 => fP S ps (S.1 3)
  | k + 1 => if dw (S.1 0 - 1 - k) then FF S ps dw k else stp S (FF S ps dw k) (S.1 0 - 1 - k)
def FB (S : zS) (ps dw : Nat → Bool) (b : Nat) : Nat → Nat → Int64 := FF S ps dw (S.1 0 - 1 - b)
def P0 (S : zS) (ps dw : Nat → Bool) (b : Nat) : Int64 := p0 S (FB S ps dw b) b
def P1 (S : zS) (ps dw : Nat → Bool) (b : Nat) : Int64 := p1 S (FB S ps dw b) b
def bd (S : zS) (f : Nat → Int64) (q0 q1 : Int64) (b x : Nat) : Int64 := sm (fun p => f p * lI ((x : Int) - (p : Int))) x - (if S.2 3 b 0 < (x : Int) then q0 * lI ((x : Int) - S.2 3 b 0) else 0) - (if S.2 3 b 1 < (x : Int) then q1 * lI ((x : Int) - S.2 3 b 1) else 0)
def grN (f : Nat → Int64) : Nat → Int64 × Nat
  | 0 => (0, 0)
  | c + 1 => if (grN f c).1 < ab (f c) then (ab (f c), c) else grN f c
def GR (S : zS) (ps dw : Nat → Bool) (b : Nat) : Int64 × Nat := grN (bd S (FB S ps dw b b) (P0 S ps dw b) (P1 S ps dw b) b) ((S.2 2 b 1).toNat + 1)
def wh (S : zS) (b : Nat) : Int := S.2 1 (S.2 2 b 0).toNat 0 * S.2 2 b 2 * S.2 2 b 3 * S.2 2 b 3 / 100
def lift (S : zS) (ps dw : Nat → Bool) (b : Nat) : Prop := P0 S ps dw b < 0 ∨ P1 S ps dw b < 0
def HO (S : zS) (ps dw : Nat → Bool) (b : Nat) (t : Int) : Prop := ¬ lift S ps dw b ∧ (GR S ps dw b).1 ≤ lI (wh S b * t / 10)
-- odds
def cmS (S : zS) (k oc : Int) (t : Nat) : Nat := if oc = 1 then (S.2 9 k.toNat t).toNat else 9 - (S.2 9 k.toNat t).toNat
def gcN (g : Nat → Nat) : Nat → Nat
  | 0 => 0
  | c + 1 => Nat.gcd (gcN g c) (g c)
def lk (S : zS) (b : Nat) (y : Int) (l : Nat) : Prop := S.2 10 l 0 = (b : Int) ∧ S.2 10 l 3 ≤ y
def nxO (S : zS) (o : Nat → Nat) (l : Nat) : Nat → Nat := fun t => o t * cmS S (S.2 10 l 1) (S.2 10 l 2) t
def oO (S : zS) (b : Nat) (y : Int) : Nat → Nat → Nat
  | 0 => fun t => (S.2 8 b t).toNat
  | l + 1 => if S.2 10 l 0 = (b : Int) ∧ S.2 10 l 3 ≤ y ∧ gcN (nxO S (oO S b y l) l) 11 ≠ 0 then fun t => nxO S (oO S b y l) l t / gcN (nxO S (oO S b y l) l) 11 else oO S b y l
def oQ (S : zS) (b : Nat) (y : Int) : Nat → Int
  | 0 => -900009
  | l + 1 => if S.2 10 l 0 = (b : Int) ∧ S.2 10 l 3 ≤ y ∧ gcN (nxO S (oO S b y l) l) 11 = 0 ∧ oQ S b y l = -900009 then (l : Int) else oQ S b y l
def OD (S : zS) (b : Nat) (y : Int) : Nat → Nat := oO S b y (S.1 2)
def fsN (p : Nat → Bool) : Nat → Nat
  | 0 => 0
  | n + 1 => if fsN p n < n then fsN p n else if p n then n else n + 1
def mostN (o : Nat → Nat) : Nat → Nat
  | 0 => 0
  | n + 1 => if o n = 0 then mostN o n else n
def leastN (o : Nat → Nat) : Nat := fsN (fun t => decide (o t ≠ 0)) 11
def KS (S : zS) (b : Nat) (y : Int) (most : Bool) : Nat := if most then mostN (OD S b y) 11 else leastN (OD S b y)
def shL (S : zS) (b : Nat) (t : Int) (yrs : Int) : Int := if t < yrs * S.2 1 (S.2 2 b 0).toNat (1 + (S.2 2 b 4).toNat) / 10 then 0 else t - yrs * S.2 1 (S.2 2 b 0).toNat (1 + (S.2 2 b 4).toNat) / 10
def SD (S : zS) (ps : Nat → Bool) (sh : Nat → Int) : Prop := (∀ b, b < S.1 0 → dA S (flS S) b = false) ∧ ∀ b, b < S.1 0 → HO S ps (dA S (flS S)) b (sh b)
-- the state's own order
def okB (S : zS) (b : Nat) : Prop := (0 ≤ S.2 2 b 0 ∧ S.2 2 b 0 < 4) ∧ (2 ≤ S.2 2 b 1 ∧ S.2 2 b 1 ≤ 60) ∧ (1 ≤ S.2 2 b 2 ∧ S.2 2 b 2 ≤ 40) ∧ (1 ≤ S.2 2 b 3 ∧ S.2 2 b 3 ≤ 40) ∧ (0 ≤ S.2 3 b 0 ∧ S.2 3 b 0 ≤ S.2 2 b 1) ∧ (0 ≤ S.2 3 b 1 ∧ S.2 3 b 1 ≤ S.2 2 b 1) ∧ S.2 2 b 1 ≤ 3 * (S.2 3 b 1 - S.2 3 b 0) ∧ (S.2 4 b 0 = -900009 ∨ (0 ≤ S.2 4 b 0 ∧ S.2 4 b 0 < (b : Int) ∧ 0 ≤ S.2 5 b 0 ∧ S.2 5 b 0 ≤ S.2 2 (S.2 4 b 0).toNat 1)) ∧ (S.2 4 b 1 = -900009 ∨ (0 ≤ S.2 4 b 1 ∧ S.2 4 b 1 < (b : Int) ∧ 0 ≤ S.2 5 b 1 ∧ S.2 5 b 1 ≤ S.2 2 (S.2 4 b 1).toNat 1))
def lkN (S : zS) (b : Nat) : Nat → Nat
  | 0 => 0
  | l + 1 => lkN S b l + (if S.2 10 l 0 = (b : Int) then 1 else 0)
def ok (S : zS) : Prop :=
  (S.1 0 ≤ 12 ∧ S.1 1 ≤ 40 ∧ S.1 2 ≤ 60 ∧ S.1 3 ≤ 8) ∧
  (∀ k, k < 4 → (1 ≤ S.2 1 k 0 ∧ S.2 1 k 0 ≤ 999) ∧ (0 ≤ S.2 1 k 1 ∧ S.2 1 k 1 ≤ 10) ∧ (0 ≤ S.2 1 k 2 ∧ S.2 1 k 2 ≤ 10)) ∧
  (∀ b, b < S.1 0 → okB S b) ∧
  (∀ b, b < 12 → (S.2 2 b 4 = 0 ∨ S.2 2 b 4 = 1) ∧ (S.2 2 b 5 = 0 ∨ S.2 2 b 5 = 1)) ∧
  (∀ b, b < 12 → S.1 0 ≤ b → S.2 2 b 4 = 0 ∧ S.2 2 b 5 = 0 ∧ ∀ t, t < 11 → S.2 8 b t = 1) ∧
  (∀ l, l < S.1 1 → (0 ≤ S.2 6 l 0 ∧ S.2 6 l 0 < (S.1 0 : Int)) ∧ (0 ≤ S.2 6 l 1 ∧ S.2 6 l 1 ≤ S.2 2 (S.2 6 l 0).toNat 1) ∧ (1 ≤ S.2 6 l 2 ∧ S.2 6 l 2 ≤ 9999) ∧ (S.2 6 l 3 = 0 ∨ S.2 6 l 3 = 1)) ∧
  (∀ p, p < S.1 3 → (0 ≤ S.2 7 p 0 ∧ S.2 7 p 0 < (S.1 0 : Int)) ∧ (0 ≤ S.2 7 p 1 ∧ S.2 7 p 1 ≤ S.2 2 (S.2 7 p 0).toNat 1) ∧ (1 ≤ S.2 7 p 2 ∧ S.2 7 p 2 ≤ 9999)) ∧
  (∀ p, p < 8 → (S.2 7 p 3 = 0 ∨ S.2 7 p 3 = 1) ∧ (S.1 3 ≤ p → S.2 7 p 3 = 0)) ∧
  (∀ b, b < 12 → (∀ t, t < 11 → 0 ≤ S.2 8 b t ∧ S.2 8 b t ≤ 99) ∧ ∃ t, t < 11 ∧ S.2 8 b t ≠ 0) ∧
  (∀ k, k < 4 → ∀ t, t < 11 → 0 ≤ S.2 9 k t ∧ S.2 9 k t ≤ 9) ∧
  (∀ l, l < S.1 2 → (0 ≤ S.2 10 l 0 ∧ S.2 10 l 0 < (S.1 0 : Int)) ∧ (0 ≤ S.2 10 l 1 ∧ S.2 10 l 1 < 4) ∧ (S.2 10 l 2 = 0 ∨ S.2 10 l 2 = 1) ∧ (0 ≤ S.2 10 l 3 ∧ S.2 10 l 3 ≤ 500)) ∧
  (∀ b, b < 12 → lkN S b (S.1 2) ≤ 8) ∧
  ((0 ≤ S.2 11 0 0 ∧ S.2 11 0 0 ≤ 9999) ∧ (0 ≤ S.2 11 1 0 ∧ S.2 11 1 0 ≤ 9999))
-- the class' memory holds S
def RX (S : zS) (M : zM) : Prop :=
  (M.1 1 2 = (S.1 0 : Int) ∧ M.1 1 8 = (S.1 1 : Int) ∧ M.1 2 6 = (S.1 2 : Int) ∧ M.1 1 12 = (S.1 3 : Int)) ∧
  (∀ k, k < 4 → ∀ w, w < 3 → M.1 (9 + k) w = S.2 1 k w) ∧
  (∀ b, b < S.1 0 → (M.1 (45 + 7 * b) 0 = S.2 2 b 0 ∧ M.1 (45 + 7 * b) 1 = S.2 2 b 1 ∧ M.1 (45 + 7 * b) 2 = S.2 2 b 2 ∧ M.1 (45 + 7 * b) 3 = S.2 2 b 3) ∧ ∀ s, s < 2 → M.1 (45 + 7 * b + 1) s = S.2 3 b s ∧ M.1 (45 + 7 * b + 2) s = S.2 4 b s ∧ (S.2 4 b s ≠ -900009 → M.1 (45 + 7 * b + 3) s = S.2 5 b s)) ∧
  (∀ b, b < 12 → M.1 (45 + 7 * b) 4 = S.2 2 b 4 ∧ ∀ x, x < 61 → M.2 (45 + 7 * b + 4) x = fL S (S.1 1) b x) ∧
  (∃ m : Nat, M.1 1 3 = (m : Int) ∧ m < 4096 ∧ ∀ i, i < 12 → m.testBit i = flS S i) ∧
  (∀ l, l < S.1 1 → M.1 14 l = S.2 6 l 0 ∧ M.1 15 l = S.2 6 l 1 ∧ M.1 16 l = S.2 6 l 2 ∧ M.1 17 l = S.2 6 l 3) ∧
  (∀ p, p < S.1 3 → M.1 18 p = S.2 7 p 0 ∧ M.1 19 p = S.2 7 p 1 ∧ M.1 20 p = S.2 7 p 2) ∧
  (∃ m : Nat, M.1 1 13 = (m : Int) ∧ m < 256 ∧ ∀ p, p < 8 → m.testBit (7 - p) = psS S p) ∧
  (∀ b, b < 12 → ∀ t, t < 11 → M.1 (22 + b) t = S.2 8 b t) ∧
  (∀ k, k < 4 → ∀ t, t < 11 → M.1 (35 + k) t = S.2 9 k t) ∧
  (∀ l, l < S.1 2 → M.1 39 l = S.2 10 l 0 ∧ M.1 40 l = S.2 10 l 1 ∧ M.1 41 l = S.2 10 l 2 ∧ M.1 42 l = S.2 10 l 3) ∧
  (M.1 5 0 = S.2 11 0 0 ∧ M.1 5 1 = S.2 11 1 0)
-- the reference's memory holds S
def RM (S : zS) (M : zM) : Prop :=
  (M.1 0 2 = (S.1 0 : Int) ∧ M.1 0 12 = (S.1 1 : Int) ∧ M.1 0 31 = (S.1 2 : Int) ∧ M.1 0 17 = (S.1 3 : Int)) ∧
  (∀ k, k < 4 → M.1 1 k = S.2 1 k 0 ∧ M.1 2 (2 * k) = S.2 1 k 1 ∧ M.1 2 (2 * k + 1) = S.2 1 k 2) ∧
  (∀ b, b < S.1 0 → (M.1 3 b = S.2 2 b 0 ∧ M.1 4 b = S.2 2 b 1 ∧ M.1 5 b = S.2 2 b 2 ∧ M.1 6 b = S.2 2 b 3) ∧ ∀ s, s < 2 → M.1 9 (2 * b + s) = S.2 3 b s ∧ M.1 10 (2 * b + s) = S.2 4 b s ∧ (S.2 4 b s ≠ -900009 → M.1 11 (2 * b + s) = S.2 5 b s)) ∧
  (∀ b, b < 12 → M.1 7 b = S.2 2 b 4 ∧ M.1 8 b = S.2 2 b 5) ∧
  (∀ l, l < S.1 1 → M.1 12 l = S.2 6 l 0 ∧ M.1 13 l = S.2 6 l 1 ∧ M.1 14 l = S.2 6 l 2) ∧
  (∀ l, l < 40 → M.1 15 l = (if l < S.1 1 then 1 - S.2 6 l 3 else 0)) ∧
  (∀ p, p < S.1 3 → M.1 16 p = S.2 7 p 0 ∧ M.1 17 p = S.2 7 p 1 ∧ M.1 18 p = S.2 7 p 2) ∧
  (∀ p, p < 8 → M.1 19 p = S.2 7 p 3) ∧
  (∀ b, b < S.1 0 → ∀ t, t < 11 → M.1 27 (11 * b + t) = S.2 8 b t) ∧
  (∀ k, k < 4 → ∀ t, t < 11 → M.1 28 (11 * k + t) = S.2 9 k t) ∧
  (∀ l, l < S.1 2 → M.1 29 l = S.2 10 l 0 ∧ M.1 30 l = S.2 10 l 1 ∧ M.1 31 l = S.2 10 l 2 ∧ M.1 32 l = S.2 10 l 3) ∧
  (M.1 0 43 = S.2 11 0 0 ∧ M.1 0 44 = S.2 11 1 0)
