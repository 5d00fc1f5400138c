/-! ===== the calls: what is thrown (0: nothing), what is answered, what is there then ===== -/
def eBottle (S : Nat → Nat → Int) (a b c d : Int) : Int := if (1 ≤ a ∧ a ≤ 20) ∧ (5 ≤ b ∧ b ≤ 60) ∧ (10 ≤ c ∧ c ≤ 90) ∧ (0 ≤ d ∧ d ≤ 20) then (if S 0 9 = 0 then 0 else 2) else 1
def sBottle (S : Nat → Nat → Int) (a b c d : Int) : Nat → Nat → Int := u2 (u2 (u2 (u2 S 0 0 a) 0 1 b) 0 2 c) 0 3 d
def eHull (S : Nat → Nat → Int) (a b c : Int) : Int := if (5 ≤ a ∧ a ≤ 80) ∧ (1 ≤ b ∧ b ≤ 15) ∧ (1 ≤ c ∧ c ≤ 15) then (if S 0 7 ≤ 0 ∧ S 0 9 = 0 then 0 else 2) else 1
def sHull (S : Nat → Nat → Int) (a b c : Int) : Nat → Nat → Int := u2 (u2 (u2 S 0 4 a) 0 5 b) 0 6 c
def plcB (S : Nat → Nat → Int) (p : Int) : Bool := decide (0 < cnt (fun m => decide (S 1 m = p)) (mcn S))
def eStep (S : Nat → Nat → Int) (p t : Int) : Int := if (0 ≤ p ∧ p ≤ S 0 4) ∧ (1 ≤ t ∧ t ≤ 50) then (if S 0 9 = 0 ∧ S 0 7 < 3 ∧ plcB S p = false then 0 else 2) else 1
def sStep (S : Nat → Nat → Int) (p t : Int) : Nat → Nat → Int := u2 (u2 (u2 (u2 S 1 (mcn S) p) 2 (mcn S) t) 4 (mcn S) 9) 0 7 (S 0 7 + 1)
def eYard (S : Nat → Nat → Int) (m v : Int) : Int := if 0 ≤ m ∧ m < S 0 7 then (if 1 ≤ v ∧ v ≤ 20 then (if S 0 9 = 0 ∧ S 3 m.toNat < 3 then 0 else 3) else 2) else 1
def sYard (S : Nat → Nat → Int) (m v : Int) : Nat → Nat → Int := u2 (u2 S (10 + m.toNat) (S 3 m.toNat).toNat v) 3 m.toNat (S 3 m.toNat + 1)
def eLead (S : Nat → Nat → Int) (m t v : Int) : Int := if (0 ≤ m ∧ m < S 0 7) ∧ (t = -1 ∨ (0 ≤ t ∧ t < S 0 7)) then (if ¬ m = t ∧ (1 ≤ v ∧ v ≤ 9) then (if S 0 8 < 8 then 0 else 3) else 2) else 1
def sLead (S : Nat → Nat → Int) (m t v : Int) : Nat → Nat → Int := u2 (u2 (u2 (u2 (u2 (u2 S 5 (tcn S) m) 6 (tcn S) t) 7 (tcn S) v) 13 (tcn S) (min (S 1 m.toNat) (if t = -1 then 0 else S 1 t.toNat))) 14 (tcn S) (max (S 1 m.toNat) (if t = -1 then 0 else S 1 t.toNat))) 0 8 (S 0 8 + 1)
def entB (S : Nat → Nat → Int) : Bool := decide (S 0 9 = 0) && goesB S && fitsB S (S 4)
def leaB (S : Nat → Nat → Int) : Bool := decide (S 0 9 = 1) && goesB S
def sEnter (S : Nat → Nat → Int) : Nat → Nat → Int := if entB S = true then u2 S 0 9 1 else S
def sLeave (S : Nat → Nat → Int) : Nat → Nat → Int := if leaB S = true then u2 S 0 9 0 else S
def isT (S : Nat → Nat → Int) (t : Int) : Bool := decide (0 ≤ t) && decide (t < S 0 8)
def ePull (S : Nat → Nat → Int) (t : Int) : Int := if 0 ≤ t ∧ t < S 0 8 then (if S 8 t.toNat = 0 then 0 else 2) else 1
def sWear (S : Nat → Nat → Int) (t : Nat) : Nat → Nat → Int := if S 7 t - 1 = 0 then u2 (u2 S 7 t (S 7 t - 1)) 8 t 2 else u2 S 7 t (S 7 t - 1)
def rPull (S : Nat → Nat → Int) (t : Nat) : Int := if hinF S t = 0 then raiseF S (S 5 t).toNat (S 4) (S 5 t).toNat else hinF S t
def sPull (S : Nat → Nat → Int) (t : Nat) : Nat → Nat → Int := if hinF S t = 0 then ur (u2 S 0 11 (S 0 11 + 1)) 4 (raiseF S (S 5 t).toNat (S 4)) else if hinF S t = -1 then u2 S 0 12 (S 0 12 + 1) else sWear (u2 S 0 12 (S 0 12 + 1)) t
def eGlue (S : Nat → Nat → Int) (t : Int) : Int := if 0 ≤ t ∧ t < S 0 8 then (if S 8 t.toNat = 2 then 2 else 0) else 1
def sGlue (S : Nat → Nat → Int) (t : Nat) : Nat → Nat → Int := u2 S 8 t (1 - S 8 t)
def eCross (S : Nat → Nat → Int) (a b : Int) : Int := if (0 ≤ a ∧ a < S 0 8) ∧ (0 ≤ b ∧ b < S 0 8) then 0 else 1
def bI (b : Bool) : Int := if b = true then 1 else 0
def mastV (S : Nat → Nat → Int) (m : Nat) (q : Int) : Int := if q = 0 then S 1 m else if q = 1 then S 2 m else if q = 2 then S 4 m else if q = 3 then stand S (S 4) m else if q = 4 then reachM S (S 4) m else if q = 5 then S 3 m else if q = 6 then bI (heldB S (m : Int)) else looseN S (m : Int)
def eMast (S : Nat → Nat → Int) (m q : Int) : Int := if (0 ≤ m ∧ m < S 0 7) ∧ (0 ≤ q ∧ q ≤ 7) then 0 else 1
def thrV (S : Nat → Nat → Int) (t : Nat) (q : Int) : Int := if q = 0 then S 5 t else if q = 1 then S 6 t else if q = 2 then S 7 t else if q = 3 then S 8 t else cnt (crossB S t) (tcn S)
def eThr (S : Nat → Nat → Int) (t q : Int) : Int := if (0 ≤ t ∧ t < S 0 8) ∧ (0 ≤ q ∧ q ≤ 4) then 0 else 1
def shipV (S : Nat → Nat → Int) (q : Int) : Int := if q = 0 then breN S else if q = 1 then topF S (S 4) else if q = 2 then endF S (S 4) else if q = 3 then bI (goesB S) else if q = 4 then bI (fitsB S (S 4)) else S 0 9
def eShip (q : Int) : Int := if 0 ≤ q ∧ q ≤ 5 then 0 else 1
def cntV (S : Nat → Nat → Int) (q : Int) : Int := if q = 0 then S 0 10 else if q = 1 then S 0 7 else if q = 2 then cnt (fun m => decide (S 4 m = 0)) (mcn S) else if q = 3 then S 0 8 else if q = 4 then cnt (fun t => decide (S 8 t = 0)) (tcn S) else if q = 5 then cnt (fun t => decide (S 8 t = 2)) (tcn S) else if q = 6 then S 0 11 else S 0 12
def eCnt (q : Int) : Int := if 0 ≤ q ∧ q ≤ 7 then 0 else 1
/-- the leans some hours later -/
def lateF (S : Nat → Nat → Int) (n : Nat) (m : Nat) : Int := if (m : Int) < S 0 7 then min 9 (S 4 m + (n : Int) * fallF S m) else S 4 m
def flatN (S : Nat → Nat → Int) (f : Nat → Int) : Int := cnt (fun m => decide (f m = 9)) (mcn S)
def ePass (n : Int) : Int := if 1 ≤ n ∧ n ≤ 50 then 0 else 1
def sPass (S : Nat → Nat → Int) (n : Int) : Nat → Nat → Int := u2 (ur S 4 (lateF S n.toNat)) 0 10 (S 0 10 + n)
def rPass (S : Nat → Nat → Int) (n : Int) : Int := flatN S (lateF S n.toNat) - flatN S (S 4)
def eLeast (S : Nat → Nat → Int) (m : Int) : Int := if 0 ≤ m ∧ m < S 0 7 then 0 else 1
def afB (S : Nat → Nat → Int) (n : Nat) : Prop := ∀ m : Nat, (m : Int) < S 0 7 → 9 ≤ S 4 m + (n : Int) * fallF S m
def FallsP (S : Nat → Nat → Int) (a : Int) : Prop := (a = -1 ∧ ∀ n : Nat, n ≤ 50 → ¬ afB S n) ∨ (∃ n : Nat, a = (n : Int) ∧ n ≤ 50 ∧ afB S n ∧ ∀ j : Nat, j < n → ¬ afB S j)
def sumL (f : Nat → Int) : Nat → Int
  | 0 => 0
  | n + 1 => sumL f n + f n
theorem sumL_s (f : Nat → Int) (n : Nat) : sumL f (n + 1) = sumL f n + f n := rfl
def digV (S : Nat → Nat → Int) : Int64 :=
  let d1 := dgF 823 (fun i => cntV S (i : Int)) 8
  let d2 := dgF d1 (fun i => shipV S (i : Int)) 6
  let d3 := dg (dg (dg (dg d2 (S 0 0)) (S 0 1)) (S 0 2)) (S 0 3)
  dg (dg (dg d3 (S 0 4)) (S 0 5)) (S 0 6)
def dgM (S : Nat → Nat → Int) (d : Int64) : Nat → Int64
  | 0 => d
  | m + 1 => dgF (dgF (dgM S d m) (fun i => mastV S m (i : Int)) 8) (S (10 + m)) (S 3 m).toNat
def dgT (S : Nat → Nat → Int) (d : Int64) : Nat → Int64
  | 0 => d
  | t + 1 => dgF (dgT S d t) (fun i => thrV S t (i : Int)) 5
def digR (S : Nat → Nat → Int) : Int64 := dgT S (dgM S (digV S) (mcn S)) (tcn S)
theorem dgM_s (S : Nat → Nat → Int) (d : Int64) (m : Nat) : dgM S d (m + 1) = dgF (dgF (dgM S d m) (fun i => mastV S m (i : Int)) 8) (S (10 + m)) (S 3 m).toNat := rfl
theorem dgT_s (S : Nat → Nat → Int) (d : Int64) (t : Nat) : dgT S d (t + 1) = dgF (dgT S d t) (fun i => thrV S t (i : Int)) 5 := rfl
theorem plc_iff (S : Nat → Nat → Int) (p : Int) : plcB S p = true ↔ ∃ m : Nat, (m : Int) < S 0 7 ∧ S 1 m = p := by
  unfold plcB
  rw [decide_eq_true_eq, cnt_pos]
  exact ⟨fun ⟨m, h1, h2⟩ => ⟨m, by unfold mcn at h1; omega, of_decide_eq_true h2⟩, fun ⟨m, h1, h2⟩ => ⟨m, by unfold mcn; omega, decide_eq_true h2⟩⟩
theorem hin_bd (S : Nat → Nat → Int) (t : Nat) : -3 ≤ hinF S t ∧ hinF S t ≤ 0 := by
  unfold hinF; split
  · omega
  · split
    · omega
    · split <;> omega
theorem hin_0 {S : Nat → Nat → Int} {t : Nat} (h : hinF S t = 0) : ¬ heldB S (S 5 t) = true ∧ ¬ S 4 (S 5 t).toNat = 0 := by
  unfold hinF at h
  by_cases e : heldB S (S 5 t) = true ∨ S 4 (S 5 t).toNat = 0
  · rw [if_pos e] at h; omega
  · exact ⟨fun q => e (Or.inl q), fun q => e (Or.inr q)⟩
theorem raise_row {S : Nat → Nat → Int} (h : Inv S) (m : Nat) {g : Nat → Int} (e : ∀ j, j < 3 → g j = raiseF S m (S 4) j) (hm : m < 3 := by omega) : (fun j => if j < 3 then g j else S 4 j) = raiseF S m (S 4) := by
  funext j
  by_cases hj : j < 3
  · rw [if_pos hj]; exact e j hj
  · rw [if_neg hj]
    unfold raiseF
    rw [if_neg (by omega)]
    have := low_out h (m : Int) (o := j) (by have := h.mc; omega)
    simp [this]
