/-! What each call answers, and what the state is behind it -/
def isBm (S : zS) (b : Int) : Prop := 0 ≤ b ∧ b < (S.1 0 : Int)
def yrs (y : Int) : Prop := 0 ≤ y ∧ y ≤ 500
/-- the refusals that most calls on one beam name; 0: none -/
def rfS (S : zS) (b : Int) (inside : Prop) [Decidable inside] : Int := if ¬ (0 ≤ b ∧ b < (S.1 0 : Int)) then -900001 else if ¬ inside then -900002 else if dA S (flS S) b.toNat = true then -900003 else 0
-- kind
def okKind (k w v : Int) : Prop := (0 ≤ w ∧ w ≤ 2) ∧ ((w = 0 ∧ 1 ≤ v ∧ v ≤ 999) ∨ (w ≠ 0 ∧ 0 ≤ v ∧ v ≤ 10))
def fKind (S : zS) (k w v : Int) : Int := if ¬ (0 ≤ k ∧ k ≤ 3) then -900001 else if ¬ ((0 ≤ w ∧ w ≤ 2) ∧ ((w = 0 ∧ 1 ≤ v ∧ v ≤ 999) ∨ (w ≠ 0 ∧ 0 ≤ v ∧ v ≤ 10))) then -900002 else S.2 1 k.toNat w.toNat
def gKind (S : zS) (k w v : Int) : zS := if (0 ≤ k ∧ k ≤ 3) ∧ (0 ≤ w ∧ w ≤ 2) ∧ ((w = 0 ∧ 1 ≤ v ∧ v ≤ 999) ∨ (w ≠ 0 ∧ 0 ≤ v ∧ v ≤ 10)) then uS S 1 k.toNat w.toNat v else S
-- beam
def okBeam (S : zS) (l w h y : Int) : Prop := (2 ≤ l ∧ l ≤ 60) ∧ (1 ≤ w ∧ w ≤ 40) ∧ (1 ≤ h ∧ h ≤ 40) ∧ (0 ≤ y ∧ y ≤ 500)
def fBeam (S : zS) (k l w h y : Int) : Int := if ¬ (0 ≤ k ∧ k ≤ 3) then -900001 else if ¬ ((2 ≤ l ∧ l ≤ 60) ∧ (1 ≤ w ∧ w ≤ 40) ∧ (1 ≤ h ∧ h ≤ 40) ∧ (0 ≤ y ∧ y ≤ 500)) then -900002 else if 12 ≤ S.1 0 then -900004 else (S.1 0 : Int)
def aBeam (S : zS) (k l w h : Int) : zS := uN (uS (uS (uS (uS (uS (uS (uS (uS S 2 (S.1 0) 0 k) 2 (S.1 0) 1 l) 2 (S.1 0) 2 w) 2 (S.1 0) 3 h) 3 (S.1 0) 0 0) 3 (S.1 0) 1 l) 4 (S.1 0) 0 (-900009)) 4 (S.1 0) 1 (-900009)) 0 (S.1 0 + 1)
def gBeam (S : zS) (k l w h y : Int) : zS := if (0 ≤ k ∧ k ≤ 3) ∧ ((2 ≤ l ∧ l ≤ 60) ∧ (1 ≤ w ∧ w ≤ 40) ∧ (1 ≤ h ∧ h ≤ 40) ∧ (0 ≤ y ∧ y ≤ 500)) ∧ S.1 0 < 12 then aBeam S k l w h else S
-- seat
def sAp (S : zS) (b s p : Int) : Int := (if s = 0 then S.2 3 b.toNat 1 else p) - (if s = 0 then p else S.2 3 b.toNat 0)
def fSeat (S : zS) (b s p o w : Int) : Int := if ¬ (0 ≤ b ∧ b < (S.1 0 : Int)) then -900001 else if ¬ ((0 ≤ s ∧ s ≤ 1) ∧ 0 ≤ p ∧ p ≤ S.2 2 b.toNat 1) then -900002 else if o ≠ -900009 ∧ ¬ (0 ≤ o ∧ o < b) then -900003 else if o ≠ -900009 ∧ ¬ (0 ≤ w ∧ w ≤ S.2 2 o.toNat 1) then -900002 else if ¬ S.2 2 b.toNat 1 ≤ 3 * sAp S b s p then -900003 else S.2 3 b.toNat s.toNat
def aSeat (S : zS) (b s p o w : Int) : zS := uS (uS (uS S 3 b.toNat s.toNat p) 4 b.toNat s.toNat o) 5 b.toNat s.toNat w
def gSeat (S : zS) (b s p o w : Int) : zS := if (0 ≤ b ∧ b < (S.1 0 : Int)) ∧ ((0 ≤ s ∧ s ≤ 1) ∧ 0 ≤ p ∧ p ≤ S.2 2 b.toNat 1) ∧ (o = -900009 ∨ (0 ≤ o ∧ o < b ∧ 0 ≤ w ∧ w ≤ S.2 2 o.toNat 1)) ∧ S.2 2 b.toNat 1 ≤ 3 * sAp S b s p then aSeat S b s p o w else S
-- about, wet
def fAbout (S : zS) (b q : Int) : Int := if ¬ (0 ≤ b ∧ b < (S.1 0 : Int)) then -900001 else if q = 0 then S.2 2 b.toNat 1 else if q = 1 then S.2 3 b.toNat 0 else if q = 2 then S.2 3 b.toNat 1 else if q = 3 then S.2 4 b.toNat 0 else if q = 4 then S.2 4 b.toNat 1 else if q = 5 then wh S b.toNat else if q = 6 then S.2 2 b.toNat 4 else if q = 7 then zb (dA S (flS S) b.toNat = true) else -900002
def fWet (S : zS) (b : Int) : Int := if ¬ (0 ≤ b ∧ b < (S.1 0 : Int)) then -900001 else S.2 2 b.toNat 4
def gWet (S : zS) (b z : Int) : zS := if 0 ≤ b ∧ b < (S.1 0 : Int) then uS S 2 b.toNat 4 z else S
-- load, takeOff
def fLoad (S : zS) (b p w : Int) : Int := if ¬ (0 ≤ b ∧ b < (S.1 0 : Int)) then -900001 else if ¬ ((0 ≤ p ∧ p ≤ S.2 2 b.toNat 1) ∧ 1 ≤ w ∧ w ≤ 9999) then -900002 else if 40 ≤ S.1 1 then -900004 else (S.1 1 : Int)
def aLoad (S : zS) (b p w : Int) : zS := uN (uS (uS (uS (uS S 6 (S.1 1) 0 b) 6 (S.1 1) 1 p) 6 (S.1 1) 2 w) 6 (S.1 1) 3 1) 1 (S.1 1 + 1)
def gLoad (S : zS) (b p w : Int) : zS := if (0 ≤ b ∧ b < (S.1 0 : Int)) ∧ ((0 ≤ p ∧ p ≤ S.2 2 b.toNat 1) ∧ 1 ≤ w ∧ w ≤ 9999) ∧ S.1 1 < 40 then aLoad S b p w else S
def fOff (S : zS) (l : Int) : Int := if ¬ (0 ≤ l ∧ l < (S.1 1 : Int)) then -900001 else if S.2 6 l.toNat 3 = 0 then -900003 else S.2 6 l.toNat 2
def gOff (S : zS) (l : Int) : zS := if (0 ≤ l ∧ l < (S.1 1 : Int)) ∧ S.2 6 l.toNat 3 ≠ 0 then uS S 6 l.toNat 3 0 else S
-- fall
def fFall (S : zS) (b : Int) : Int := if ¬ (0 ≤ b ∧ b < (S.1 0 : Int)) then -900001 else if S.2 2 b.toNat 5 = 1 then -900003 else (dcnt (dA (uS S 2 b.toNat 5 1) (flS (uS S 2 b.toNat 5 1))) (S.1 0) : Int)
def gFall (S : zS) (b : Int) : zS := if (0 ≤ b ∧ b < (S.1 0 : Int)) ∧ S.2 2 b.toNat 5 ≠ 1 then uS S 2 b.toNat 5 1 else S
-- what the frame bears
def fPush (S : zS) (b s : Int) : Int64 := if rfS S b (0 ≤ s ∧ s ≤ 1) ≠ 0 then lI (rfS S b (0 ≤ s ∧ s ≤ 1)) else if s = 0 then P0 S (psS S) (dA S (flS S)) b.toNat else P1 S (psS S) (dA S (flS S)) b.toNat
def fBend (S : zS) (b p : Int) : Int64 := if rfS S b (0 ≤ p ∧ p ≤ S.2 2 b.toNat 1) ≠ 0 then lI (rfS S b (0 ≤ p ∧ p ≤ S.2 2 b.toNat 1)) else bd S (FF S (psS S) (dA S (flS S)) (S.1 0) b.toNat) (P0 S (psS S) (dA S (flS S)) b.toNat) (P1 S (psS S) (dA S (flS S)) b.toNat) b.toNat p.toNat
def fGreat (S : zS) (b z : Int) : Int64 := if rfS S b True ≠ 0 then lI (rfS S b True) else if z = 0 then (GR S (psS S) (dA S (flS S)) b.toNat).1 else lI ((GR S (psS S) (dA S (flS S)) b.toNat).2 : Int)
def fLifts (S : zS) (b : Int) : Int := if rfS S b True ≠ 0 then rfS S b True else zb (P0 S (psS S) (dA S (flS S)) b.toNat < 0 ∨ P1 S (psS S) (dA S (flS S)) b.toNat < 0)
def fHolds (S : zS) (b t : Int) : Int := if rfS S b (0 ≤ t ∧ t ≤ 10) ≠ 0 then rfS S b (0 ≤ t ∧ t ≤ 10) else zb (hoB S (psS S) (dA S (flS S)) b.toNat t = true)
def fNeeds (S : zS) (b : Int) : Int := if rfS S b True ≠ 0 then rfS S b True else if fsN (fun t => hoB S (psS S) (dA S (flS S)) b.toNat (t : Int)) 11 < 11 then (fsN (fun t => hoB S (psS S) (dA S (flS S)) b.toNat (t : Int)) 11 : Int) else -900009
-- weights, tools, looks
def fWeight (S : zS) (b t v : Int) : Int := if ¬ (0 ≤ b ∧ b < (S.1 0 : Int)) then -900001 else if ¬ ((0 ≤ t ∧ t ≤ 10) ∧ 0 ≤ v ∧ v ≤ 99) then -900002 else if 0 < lkN S b.toNat (S.1 2) ∨ anN (fun x => decide (0 < (if (x : Int) = t then v else S.2 8 b.toNat x))) 11 = false then -900003 else S.2 8 b.toNat t.toNat
def gWeight (S : zS) (b t v : Int) : zS := if (0 ≤ b ∧ b < (S.1 0 : Int)) ∧ ((0 ≤ t ∧ t ≤ 10) ∧ 0 ≤ v ∧ v ≤ 99) ∧ ¬ (0 < lkN S b.toNat (S.1 2) ∨ anN (fun x => decide (0 < (if (x : Int) = t then v else S.2 8 b.toNat x))) 11 = false) then uS S 8 b.toNat t.toNat v else S
def fTool (S : zS) (k t v : Int) : Int := if ¬ (0 ≤ k ∧ k ≤ 3) then -900001 else if ¬ ((0 ≤ t ∧ t ≤ 10) ∧ 0 ≤ v ∧ v ≤ 9) then -900002 else if anN (fun l => decide (S.2 10 l 1 = k)) (S.1 2) = true then -900003 else S.2 9 k.toNat t.toNat
def gTool (S : zS) (k t v : Int) : zS := if (0 ≤ k ∧ k ≤ 3) ∧ ((0 ≤ t ∧ t ≤ 10) ∧ 0 ≤ v ∧ v ≤ 9) ∧ ¬ anN (fun l => decide (S.2 10 l 1 = k)) (S.1 2) = true then uS S 9 k.toNat t.toNat v else S
def lastY (S : zS) : Int := if 0 < S.1 2 then S.2 10 (S.1 2 - 1) 3 else 0
def fLook (S : zS) (b k oc y : Int) : Int := if ¬ ((0 ≤ b ∧ b < (S.1 0 : Int)) ∧ 0 ≤ k ∧ k ≤ 3) then -900001 else if ¬ ((0 ≤ oc ∧ oc ≤ 1) ∧ 0 ≤ y ∧ y ≤ 500) then -900002 else if y < lastY S then -900003 else if 60 ≤ S.1 2 ∨ 8 ≤ lkN S b.toNat (S.1 2) then -900004 else (S.1 2 : Int)
def aLook (S : zS) (b k oc y : Int) : zS := uN (uS (uS (uS (uS S 10 (S.1 2) 0 b) 10 (S.1 2) 1 k) 10 (S.1 2) 2 oc) 10 (S.1 2) 3 y) 2 (S.1 2 + 1)
def gLook (S : zS) (b k oc y : Int) : zS := if ((0 ≤ b ∧ b < (S.1 0 : Int)) ∧ 0 ≤ k ∧ k ≤ 3) ∧ ((0 ≤ oc ∧ oc ≤ 1) ∧ 0 ≤ y ∧ y ≤ 500) ∧ lastY S ≤ y ∧ S.1 2 < 60 ∧ lkN S b.toNat (S.1 2) < 8 then aLook S b k oc y else S
-- odds
def fOdds (S : zS) (b t y : Int) : Int64 := if ¬ (0 ≤ b ∧ b < (S.1 0 : Int)) then -900001 else if ¬ ((0 ≤ t ∧ t ≤ 10) ∧ 0 ≤ y ∧ y ≤ 500) then -900002 else lN (OD S b.toNat y t.toNat)
def fQuar (S : zS) (b y : Int) : Int := if ¬ (0 ≤ b ∧ b < (S.1 0 : Int)) then -900001 else if ¬ (0 ≤ y ∧ y ≤ 500) then -900002 else oQ S b.toNat y (S.1 2)
def fShare (S : zS) (b y l z : Int) : Int := if ¬ (0 ≤ b ∧ b < (S.1 0 : Int)) then -900001 else if ¬ (0 ≤ y ∧ y ≤ l ∧ l ≤ 500) then -900002 else shL S b.toNat (KS S b.toNat y (decide (z = 1)) : Int) (l - y)
/-- the frame stands with the shares that are known, after so many years of rot -/
def stB (S : zS) (y : Int) (most : Bool) (a : Int) : Bool := alN (fun b => !dA S (flS S) b) (S.1 0) && alN (fun b => hoB S (psS S) (dA S (flS S)) b (shL S b (KS S b y most : Int) a)) (S.1 0)
def fStands (S : zS) (y l z : Int) : Int := if ¬ (0 ≤ y ∧ y ≤ l ∧ l ≤ 500) then -900002 else zb (stB S y (decide (z = 1)) (l - y) = true)
def utN (S : zS) (y : Int) (most : Bool) : Nat := fsN (fun j => !stB S y most (j : Int)) (501 - y.toNat)
def fUntil (S : zS) (y z : Int) : Int := if ¬ (0 ≤ y ∧ y ≤ 500) then -900002 else if utN S y (decide (z = 1)) = 0 then -900009 else y + (utN S y (decide (z = 1)) : Int) - 1
-- chances: all odds, those lost
def lsN (S : zS) (b : Nat) (o : Nat → Nat) : Nat := sN (fun t => if hoB S (psS S) (dA S (flS S)) b (t : Int) then 0 else o t) 11
def allO (S : zS) (b : Nat) (y : Int) : Nat := sN (OD S b y) 11
def lost (S : zS) (b : Nat) (y : Int) : Nat := lsN S b (OD S b y)
def held (S : zS) (b : Nat) (y : Int) : Nat := allO S b y - lost S b y
def part (a b : Nat) (z : Int) : Int64 := if z = 0 then lN (b / Nat.gcd a b) else lN (a / Nat.gcd a b)
def fChance (S : zS) (b y z : Int) : Int64 := if rfS S b (0 ≤ y ∧ y ≤ 500) ≠ 0 then lI (rfS S b (0 ≤ y ∧ y ≤ 500)) else part (held S b.toNat y) (allO S b.toNat y) z
def wkN (S : zS) (y : Int) : Nat → Int
  | 0 => -900009
  | k + 1 => if dA S (flS S) k = true then wkN S y k else if wkN S y k = -900009 ∨ held S k y * allO S (wkN S y k).toNat y < held S (wkN S y k).toNat y * allO S k y then (k : Int) else wkN S y k
def fWeak (S : zS) (y : Int) : Int := if ¬ (0 ≤ y ∧ y ≤ 500) then -900002 else wkN S y (S.1 0)
-- falls
def knS (S : zS) (y : Int) : Nat → Int := fun b => (KS S b y false : Int)
def fChain (S : zS) (b y : Int) : Int := if rfS S b (0 ≤ y ∧ y ≤ 500) ≠ 0 then rfS S b (0 ≤ y ∧ y ≤ 500) else (dcnt (dA S (tS S (psS S) (knS S y) b.toNat (TM S (psS S) (knS S y) b.toNat)).1) (S.1 0) : Int)
def fChainAt (S : zS) (b y i : Int) : Int := if rfS S b (0 ≤ y ∧ y ≤ 500) ≠ 0 then rfS S b (0 ≤ y ∧ y ≤ 500) else if 0 ≤ i ∧ i < (TM S (psS S) (knS S y) b.toNat : Int) then ((tS S (psS S) (knS S y) b.toNat i.toNat).2 : Int) else -900009
-- props
def fProp (S : zS) (b p w : Int) : Int := if ¬ (0 ≤ b ∧ b < (S.1 0 : Int)) then -900001 else if ¬ ((0 ≤ p ∧ p ≤ S.2 2 b.toNat 1) ∧ 1 ≤ w ∧ w ≤ 9999) then -900002 else if 8 ≤ S.1 3 then -900004 else (S.1 3 : Int)
def aProp (S : zS) (b p w : Int) : zS := uN (uS (uS (uS S 7 (S.1 3) 0 b) 7 (S.1 3) 1 p) 7 (S.1 3) 2 w) 3 (S.1 3 + 1)
def gProp (S : zS) (b p w : Int) : zS := if (0 ≤ b ∧ b < (S.1 0 : Int)) ∧ ((0 ≤ p ∧ p ≤ S.2 2 b.toNat 1) ∧ 1 ≤ w ∧ w ≤ 9999) ∧ S.1 3 < 8 then aProp S b p w else S
def fSet (S : zS) (p : Int) : Int := if ¬ (0 ≤ p ∧ p < (S.1 3 : Int)) then -900001 else S.2 7 p.toNat 3
def gSet (S : zS) (p z : Int) : zS := if 0 ≤ p ∧ p < (S.1 3 : Int) then uS S 7 p.toNat 3 z else S
def fFewest (S : zS) (y : Int) : Int := if ¬ (0 ≤ y ∧ y ≤ 500) then -900002 else if FW S (knS S y) = -900009 then -900009 else (cn (FW S (knS S y)).toNat : Int)
def ndN (q : Nat) (i : Int) : Nat := fsN (fun p => q.testBit (7 - p) && decide ((dcnt (fun r => q.testBit (7 - r)) p : Int) = i)) 8
def fNeeded (S : zS) (y i : Int) : Int := if ¬ (0 ≤ y ∧ y ≤ 500) then -900002 else if FW S (knS S y) = -900009 then -900009 else if ndN (FW S (knS S y)).toNat i < 8 then (ndN (FW S (knS S y)).toNat i : Int) else -900009
-- choices
def fPrice (S : zS) (w v : Int) : Int := if ¬ ((0 ≤ w ∧ w ≤ 1) ∧ 0 ≤ v ∧ v ≤ 9999) then -900002 else S.2 11 w.toNat 0
def gPrice (S : zS) (w v : Int) : zS := if (0 ≤ w ∧ w ≤ 1) ∧ 0 ≤ v ∧ v ≤ 9999 then uS S 11 w.toNat 0 v else S
def co (S : zS) (a l : Nat) : Nat := if (S.2 11 1 0).toNat * l < (S.2 11 0 0).toNat * a then (S.2 11 1 0).toNat * l else (S.2 11 0 0).toNat * a
def fMean (S : zS) (b y z : Int) : Int64 := if rfS S b (0 ≤ y ∧ y ≤ 500) ≠ 0 then lI (rfS S b (0 ≤ y ∧ y ≤ 500)) else part (co S (allO S b.toNat y) (lost S b.toNat y)) (allO S b.toNat y) z
def by1 (S : zS) (b : Nat) (y : Int) (k : Nat) : Nat → Nat := fun t => OD S b y t * (S.2 9 k t).toNat
def wor (S : zS) (b : Nat) (y : Int) (k : Nat) : Nat := 9 * co S (allO S b y) (lost S b y) - (co S (sN (by1 S b y k) 11) (lsN S b (by1 S b y k)) + co S (9 * allO S b y - sN (by1 S b y k) 11) (9 * lost S b y - lsN S b (by1 S b y k)))
def fWorth (S : zS) (b k y z : Int) : Int64 := if ¬ (0 ≤ k ∧ k ≤ 3) then lI (-900001) else if rfS S b (0 ≤ y ∧ y ≤ 500) ≠ 0 then lI (rfS S b (0 ≤ y ∧ y ≤ 500)) else part (wor S b.toNat y k.toNat) (9 * allO S b.toNat y) z
/-- the best of the first c pairs of a beam and a tool, as its number; -1: none is worth anything -/
def blN (S : zS) (y : Int) : Nat → Int
  | 0 => -1
  | c + 1 => if dA S (flS S) (c / 4) = true then blN S y c else if blN S y c = -1 then (if 0 < wor S (c / 4) y (c % 4) then (c : Int) else -1) else if wor S ((blN S y c).toNat / 4) y ((blN S y c).toNat % 4) * (9 * allO S (c / 4) y) < wor S (c / 4) y (c % 4) * (9 * allO S ((blN S y c).toNat / 4) y) then (c : Int) else blN S y c
def blA (c : Int) : Int := if c = -1 then -900009 else 10 * (c / 4) + c % 4
def fBest (S : zS) (y : Int) : Int := if ¬ (0 ≤ y ∧ y ≤ 500) then -900002 else blA (blN S y (4 * S.1 0))
def fCount (S : zS) (q : Int) : Int := if q = 0 then (S.1 0 : Int) else if q = 1 then (dcnt (fun l => decide (S.2 6 l 3 = 1)) (S.1 1) : Int) else if q = 2 then (S.1 2 : Int) else if q = 3 then (S.1 3 : Int) else if q = 4 then (dcnt (psS S) 8 : Int) else if q = 5 then (dcnt (dA S (flS S)) (S.1 0) : Int) else -900002
