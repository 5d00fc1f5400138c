/-! ===== the state: S a i, the place i of the row a (0: single numbers; 1 places, 2 heights, 3 yard counts, 4 leans of masts; 5 masts, 6 ends, 7 strengths, 8 states, 13 lesser, 14 greater places of threads; 10, 11, 12 widths of yards); X, Y: scratch ===== -/
def u2 (S : Nat → Nat → Int) (a i : Nat) (v : Int) : Nat → Nat → Int := fun a' i' => if a' = a then (if i' = i then v else S a' i') else S a' i'
def ur (S : Nat → Nat → Int) (a : Nat) (f : Nat → Int) : Nat → Nat → Int := fun a' i' => if a' = a then f i' else S a' i'
theorem upd_iI (f : Nat → Int) (j : Nat) (v : Int) : upd (fun i => iI (f i)) j (iI v) = fun i => iI (if i = j then v else f i) := by
  funext i
  show (if i = j then iI v else iI (f i)) = _
  split <;> rfl
def codeF (f : Nat → Int) : Int := f 0 + 10 * f 1 + 100 * f 2
def cShip (h : Nat → Nat) (S : Nat → Nat → Int) : List Value := [.ref (h 1), .ref (h 2), .ref (h 3), .ref (h 4), .ref (h 5), .ref (h 6), .ref (h 7), .ref (h 8), VI (S 0 7), VI (S 0 8), VI (S 0 9), VI (S 0 10), VI (S 0 11), VI (S 0 12)]
def cBottle (S : Nat → Nat → Int) : List Value := [VI (S 0 0), VI (S 0 1), VI (S 0 2), VI (S 0 3)]
def cHull (S : Nat → Nat → Int) : List Value := [VI (S 0 4), VI (S 0 5), VI (S 0 6)]
def cSearch (h : Nat → Nat) (X : Nat → Nat → Int) : List Value := [.ref (h 23), .ref (h 24), .ref (h 25), .ref (h 26), .ref (h 27), VI (X 7 0)]
def cMast (h : Nat → Nat) (S : Nat → Nat → Int) (m : Nat) : List Value := [.ref (h (12 + m)), VI (S 1 m), VI (S 2 m), VI (S 3 m)]
def cCord (S : Nat → Nat → Int) (t : Nat) : List Value := [VI (S 5 t), VI (S 6 t), VI (S 7 t), VI (S 8 t), VI (S 13 t), VI (S 14 t)]
def cMod (g : Nat → Nat) (S Y : Nat → Nat → Int) : List Value := [VI (Y 0 0), VI (S 0 0), VI (S 0 1), VI (S 0 2), VI (S 0 3), VI (S 0 4), VI (S 0 5), VI (S 0 6), VI (S 0 9), VI (S 0 10), VI (S 0 11), VI (S 0 12), VI (S 0 7), VI (codeF (S 4)), .ref (g 1), .ref (g 2), .ref (g 3), .ref (g 4), VI (S 0 8), .ref (g 5), .ref (g 6), .ref (g 7), .ref (g 8), .ref (g 9), .ref (g 10)]
def wdF (S : Nat → Nat → Int) (j : Nat) : Int := if j < 3 then S 10 j else if j < 6 then S 11 (j - 3) else S 12 (j - 6)
theorem wd_at (S : Nat → Nat → Int) {m y : Nat} (hm : m < 3) (hy : y < 3) : wdF S (3 * m + y) = S (10 + m) y := by
  unfold wdF
  obtain rfl | rfl | rfl : m = 0 ∨ m = 1 ∨ m = 2 := by omega
  · rw [if_pos (by omega), show 3 * 0 + y = y by omega]
  · rw [if_neg (by omega), if_pos (by omega), show 3 * 1 + y - 3 = y by omega]
  · rw [if_neg (by omega), if_neg (by omega), show 3 * 2 + y - 6 = y by omega]
abbrev aI (k : Nat → ClassId) (N : Nat) (f : Nat → Int) : va_E := .inl (k 0, N, .inl (fun i => iI (f i)))
/-- the cells of the ship -/
def cw (k : Nat → ClassId) (h : Nat → Nat) (S X : Nat → Nat → Int) : va_W := [(h 0, .inr (5, cShip h S)), (h 1, .inr (0, cBottle S)), (h 2, .inr (2, cHull S)), (h 3, .inl (k 1, 3, .inr (.inr (.inr (.inr (fun m => some (h (9 + m)))))))), (h 4, .inl (k 2, 8, .inr (.inr (.inr (.inr (fun t => some (h (15 + t)))))))), (h 5, .inr (4, cSearch h X)), (h 6, aI k 3 (S 4)), (h 7, aI k 3 (X 0)), (h 8, aI k 3 (X 1)), (h 9, .inr (3, cMast h S 0)), (h 10, .inr (3, cMast h S 1)), (h 11, .inr (3, cMast h S 2)), (h 12, aI k 3 (S 10)), (h 13, aI k 3 (S 11)), (h 14, aI k 3 (S 12)), (h 15, .inr (1, cCord S 0)), (h 16, .inr (1, cCord S 1)), (h 17, .inr (1, cCord S 2)), (h 18, .inr (1, cCord S 3)), (h 19, .inr (1, cCord S 4)), (h 20, .inr (1, cCord S 5)), (h 21, .inr (1, cCord S 6)), (h 22, .inr (1, cCord S 7)), (h 23, aI k 3 (X 2)), (h 24, aI k 3 (X 3)), (h 25, aI k 1000 (X 4)), (h 26, aI k 1000 (X 5)), (h 27, aI k 1000 (X 6))]
/-- the cells of the reference -/
def mw (k : Nat → ClassId) (g : Nat → Nat) (S Y : Nat → Nat → Int) : va_W := [(g 0, .inr (6, cMod g S Y)), (g 1, aI k 3 (S 1)), (g 2, aI k 3 (S 2)), (g 3, aI k 3 (S 3)), (g 4, aI k 9 (wdF S)), (g 5, aI k 8 (S 5)), (g 6, aI k 8 (S 6)), (g 7, aI k 8 (S 7)), (g 8, aI k 8 (S 8)), (g 9, aI k 1000 (Y 1)), (g 10, aI k 1000 (Y 2))]
section VState
variable {k : Nat → ClassId} {h g : Nat → Nat} {S X Y : Nat → Nat → Int}
theorem cw_at0 : (cw k h S X)[0]? = some (h 0, .inr (5, cShip h S)) := rfl
theorem cw_at1 : (cw k h S X)[1]? = some (h 1, .inr (0, cBottle S)) := rfl
theorem cw_at2 : (cw k h S X)[2]? = some (h 2, .inr (2, cHull S)) := rfl
theorem cw_at3 : (cw k h S X)[3]? = some (h 3, .inl (k 1, 3, .inr (.inr (.inr (.inr (fun m => some (h (9 + m)))))))) := rfl
theorem cw_at4 : (cw k h S X)[4]? = some (h 4, .inl (k 2, 8, .inr (.inr (.inr (.inr (fun t => some (h (15 + t)))))))) := rfl
theorem cw_at5 : (cw k h S X)[5]? = some (h 5, .inr (4, cSearch h X)) := rfl
theorem cw_at6 : (cw k h S X)[6]? = some (h 6, aI k 3 (S 4)) := rfl
theorem cw_at7 : (cw k h S X)[7]? = some (h 7, aI k 3 (X 0)) := rfl
theorem cw_at8 : (cw k h S X)[8]? = some (h 8, aI k 3 (X 1)) := rfl
theorem cw_at23 : (cw k h S X)[23]? = some (h 23, aI k 3 (X 2)) := rfl
theorem cw_at24 : (cw k h S X)[24]? = some (h 24, aI k 3 (X 3)) := rfl
theorem cw_at25 : (cw k h S X)[25]? = some (h 25, aI k 1000 (X 4)) := rfl
theorem cw_at26 : (cw k h S X)[26]? = some (h 26, aI k 1000 (X 5)) := rfl
theorem cw_at27 : (cw k h S X)[27]? = some (h 27, aI k 1000 (X 6)) := rfl
theorem cw_mast (m : Nat) (hm : m < 3) : (cw k h S X)[9 + m]? = some (h (9 + m), .inr (3, cMast h S m)) := by
  obtain rfl | rfl | rfl : m = 0 ∨ m = 1 ∨ m = 2 := by omega
  all_goals rfl
theorem cw_yards (m : Nat) (hm : m < 3) : (cw k h S X)[12 + m]? = some (h (12 + m), aI k 3 (S (10 + m))) := by
  obtain rfl | rfl | rfl : m = 0 ∨ m = 1 ∨ m = 2 := by omega
  all_goals rfl
theorem cw_cord (t : Nat) (ht : t < 8) : (cw k h S X)[15 + t]? = some (h (15 + t), .inr (1, cCord S t)) := by
  obtain rfl | rfl | rfl | rfl | rfl | rfl | rfl | rfl : t = 0 ∨ t = 1 ∨ t = 2 ∨ t = 3 ∨ t = 4 ∨ t = 5 ∨ t = 6 ∨ t = 7 := by omega
  all_goals rfl
theorem mw_at0 : (mw k g S Y)[0]? = some (g 0, .inr (6, cMod g S Y)) := rfl
theorem mw_at1 : (mw k g S Y)[1]? = some (g 1, aI k 3 (S 1)) := rfl
theorem mw_at2 : (mw k g S Y)[2]? = some (g 2, aI k 3 (S 2)) := rfl
theorem mw_at3 : (mw k g S Y)[3]? = some (g 3, aI k 3 (S 3)) := rfl
theorem mw_at4 : (mw k g S Y)[4]? = some (g 4, aI k 9 (wdF S)) := rfl
theorem mw_at5 : (mw k g S Y)[5]? = some (g 5, aI k 8 (S 5)) := rfl
theorem mw_at6 : (mw k g S Y)[6]? = some (g 6, aI k 8 (S 6)) := rfl
theorem mw_at7 : (mw k g S Y)[7]? = some (g 7, aI k 8 (S 7)) := rfl
theorem mw_at8 : (mw k g S Y)[8]? = some (g 8, aI k 8 (S 8)) := rfl
theorem mw_at9 : (mw k g S Y)[9]? = some (g 9, aI k 1000 (Y 1)) := rfl
theorem mw_at10 : (mw k g S Y)[10]? = some (g 10, aI k 1000 (Y 2)) := rfl
theorem cw_ship8 (v : Int) : (cw k h S X).set 0 (h 0, .inr (5, (cShip h S).set 8 (VI v))) = cw k h (u2 S 0 7 v) X := rfl
theorem cw_ship9 (v : Int) : (cw k h S X).set 0 (h 0, .inr (5, (cShip h S).set 9 (VI v))) = cw k h (u2 S 0 8 v) X := rfl
theorem cw_ship10 (v : Int) : (cw k h S X).set 0 (h 0, .inr (5, (cShip h S).set 10 (VI v))) = cw k h (u2 S 0 9 v) X := rfl
theorem cw_ship11 (v : Int) : (cw k h S X).set 0 (h 0, .inr (5, (cShip h S).set 11 (VI v))) = cw k h (u2 S 0 10 v) X := rfl
theorem cw_ship12 (v : Int) : (cw k h S X).set 0 (h 0, .inr (5, (cShip h S).set 12 (VI v))) = cw k h (u2 S 0 11 v) X := rfl
theorem cw_ship13 (v : Int) : (cw k h S X).set 0 (h 0, .inr (5, (cShip h S).set 13 (VI v))) = cw k h (u2 S 0 12 v) X := rfl
theorem cw_bottle0 (v : Int) : (cw k h S X).set 1 (h 1, .inr (0, (cBottle S).set 0 (VI v))) = cw k h (u2 S 0 0 v) X := rfl
theorem cw_bottle1 (v : Int) : (cw k h S X).set 1 (h 1, .inr (0, (cBottle S).set 1 (VI v))) = cw k h (u2 S 0 1 v) X := rfl
theorem cw_bottle2 (v : Int) : (cw k h S X).set 1 (h 1, .inr (0, (cBottle S).set 2 (VI v))) = cw k h (u2 S 0 2 v) X := rfl
theorem cw_bottle3 (v : Int) : (cw k h S X).set 1 (h 1, .inr (0, (cBottle S).set 3 (VI v))) = cw k h (u2 S 0 3 v) X := rfl
theorem cw_hull0 (v : Int) : (cw k h S X).set 2 (h 2, .inr (2, (cHull S).set 0 (VI v))) = cw k h (u2 S 0 4 v) X := rfl
theorem cw_hull1 (v : Int) : (cw k h S X).set 2 (h 2, .inr (2, (cHull S).set 1 (VI v))) = cw k h (u2 S 0 5 v) X := rfl
theorem cw_hull2 (v : Int) : (cw k h S X).set 2 (h 2, .inr (2, (cHull S).set 2 (VI v))) = cw k h (u2 S 0 6 v) X := rfl
theorem cw_search5 (v : Int) : (cw k h S X).set 5 (h 5, .inr (4, (cSearch h X).set 5 (VI v))) = cw k h S (u2 X 7 0 v) := rfl
theorem cw_mast1 (m : Nat) (hm : m < 3) (v : Int) : (cw k h S X).set (9 + m) (h (9 + m), .inr (3, (cMast h S m).set 1 (VI v))) = cw k h (u2 S 1 m v) X := by
  obtain rfl | rfl | rfl : m = 0 ∨ m = 1 ∨ m = 2 := by omega
  all_goals rfl
theorem cw_mast2 (m : Nat) (hm : m < 3) (v : Int) : (cw k h S X).set (9 + m) (h (9 + m), .inr (3, (cMast h S m).set 2 (VI v))) = cw k h (u2 S 2 m v) X := by
  obtain rfl | rfl | rfl : m = 0 ∨ m = 1 ∨ m = 2 := by omega
  all_goals rfl
theorem cw_mast3 (m : Nat) (hm : m < 3) (v : Int) : (cw k h S X).set (9 + m) (h (9 + m), .inr (3, (cMast h S m).set 3 (VI v))) = cw k h (u2 S 3 m v) X := by
  obtain rfl | rfl | rfl : m = 0 ∨ m = 1 ∨ m = 2 := by omega
  all_goals rfl
theorem cw_cord0 (t : Nat) (ht : t < 8) (v : Int) : (cw k h S X).set (15 + t) (h (15 + t), .inr (1, (cCord S t).set 0 (VI v))) = cw k h (u2 S 5 t v) X := by
  obtain rfl | rfl | rfl | rfl | rfl | rfl | rfl | rfl : t = 0 ∨ t = 1 ∨ t = 2 ∨ t = 3 ∨ t = 4 ∨ t = 5 ∨ t = 6 ∨ t = 7 := by omega
  all_goals rfl
theorem cw_cord1 (t : Nat) (ht : t < 8) (v : Int) : (cw k h S X).set (15 + t) (h (15 + t), .inr (1, (cCord S t).set 1 (VI v))) = cw k h (u2 S 6 t v) X := by
  obtain rfl | rfl | rfl | rfl | rfl | rfl | rfl | rfl : t = 0 ∨ t = 1 ∨ t = 2 ∨ t = 3 ∨ t = 4 ∨ t = 5 ∨ t = 6 ∨ t = 7 := by omega
  all_goals rfl
theorem cw_cord2 (t : Nat) (ht : t < 8) (v : Int) : (cw k h S X).set (15 + t) (h (15 + t), .inr (1, (cCord S t).set 2 (VI v))) = cw k h (u2 S 7 t v) X := by
  obtain rfl | rfl | rfl | rfl | rfl | rfl | rfl | rfl : t = 0 ∨ t = 1 ∨ t = 2 ∨ t = 3 ∨ t = 4 ∨ t = 5 ∨ t = 6 ∨ t = 7 := by omega
  all_goals rfl
theorem cw_cord3 (t : Nat) (ht : t < 8) (v : Int) : (cw k h S X).set (15 + t) (h (15 + t), .inr (1, (cCord S t).set 3 (VI v))) = cw k h (u2 S 8 t v) X := by
  obtain rfl | rfl | rfl | rfl | rfl | rfl | rfl | rfl : t = 0 ∨ t = 1 ∨ t = 2 ∨ t = 3 ∨ t = 4 ∨ t = 5 ∨ t = 6 ∨ t = 7 := by omega
  all_goals rfl
theorem cw_cord4 (t : Nat) (ht : t < 8) (v : Int) : (cw k h S X).set (15 + t) (h (15 + t), .inr (1, (cCord S t).set 4 (VI v))) = cw k h (u2 S 13 t v) X := by
  obtain rfl | rfl | rfl | rfl | rfl | rfl | rfl | rfl : t = 0 ∨ t = 1 ∨ t = 2 ∨ t = 3 ∨ t = 4 ∨ t = 5 ∨ t = 6 ∨ t = 7 := by omega
  all_goals rfl
theorem cw_cord5 (t : Nat) (ht : t < 8) (v : Int) : (cw k h S X).set (15 + t) (h (15 + t), .inr (1, (cCord S t).set 5 (VI v))) = cw k h (u2 S 14 t v) X := by
  obtain rfl | rfl | rfl | rfl | rfl | rfl | rfl | rfl : t = 0 ∨ t = 1 ∨ t = 2 ∨ t = 3 ∨ t = 4 ∨ t = 5 ∨ t = 6 ∨ t = 7 := by omega
  all_goals rfl
theorem cw_leans (j : Nat) (v : Int) : (cw k h S X).set 6 (h 6, .inl (k 0, 3, .inl (upd (fun i => iI (S 4 i)) j (iI v)))) = cw k h (u2 S 4 j v) X := by
  rw [upd_iI]; rfl
theorem cw_before (j : Nat) (v : Int) : (cw k h S X).set 7 (h 7, .inl (k 0, 3, .inl (upd (fun i => iI (X 0 i)) j (iI v)))) = cw k h S (u2 X 0 j v) := by
  rw [upd_iI]; rfl
theorem cw_after (j : Nat) (v : Int) : (cw k h S X).set 8 (h 8, .inl (k 0, 3, .inl (upd (fun i => iI (X 1 i)) j (iI v)))) = cw k h S (u2 X 1 j v) := by
  rw [upd_iI]; rfl
theorem cw_handles (j : Nat) (v : Int) : (cw k h S X).set 23 (h 23, .inl (k 0, 3, .inl (upd (fun i => iI (X 2 i)) j (iI v)))) = cw k h S (u2 X 2 j v) := by
  rw [upd_iI]; rfl
theorem cw_lowered (j : Nat) (v : Int) : (cw k h S X).set 24 (h 24, .inl (k 0, 3, .inl (upd (fun i => iI (X 3 i)) j (iI v)))) = cw k h S (u2 X 3 j v) := by
  rw [upd_iI]; rfl
theorem cw_queue (j : Nat) (v : Int) : (cw k h S X).set 25 (h 25, .inl (k 0, 1000, .inl (upd (fun i => iI (X 4 i)) j (iI v)))) = cw k h S (u2 X 4 j v) := by
  rw [upd_iI]; rfl
theorem cw_steps (j : Nat) (v : Int) : (cw k h S X).set 26 (h 26, .inl (k 0, 1000, .inl (upd (fun i => iI (X 5 i)) j (iI v)))) = cw k h S (u2 X 5 j v) := by
  rw [upd_iI]; rfl
theorem cw_openers (j : Nat) (v : Int) : (cw k h S X).set 27 (h 27, .inl (k 0, 1000, .inl (upd (fun i => iI (X 6 i)) j (iI v)))) = cw k h S (u2 X 6 j v) := by
  rw [upd_iI]; rfl
theorem cw_bef {Z9 : Nat → Nat → Int} (e : ∀ j, Z9 0 j = X 0 j) : (cw k h S Z9)[7]? = some (h 7, aI k 3 (X 0)) := by
  rw [show X 0 = Z9 0 from funext fun j => (e j).symm]; rfl
theorem cw_width (m j : Nat) (hm : m < 3) (v : Int) : (cw k h S X).set (12 + m) (h (12 + m), .inl (k 0, 3, .inl (upd (fun i => iI (S (10 + m) i)) j (iI v)))) = cw k h (u2 S (10 + m) j v) X := by
  rw [upd_iI]
  obtain rfl | rfl | rfl : m = 0 ∨ m = 1 ∨ m = 2 := by omega
  all_goals rfl
theorem cw_copy (f : Nat → Int) : (cw k h S X).set 6 (h 6, aI k 3 f) = cw k h (ur S 4 f) X := rfl
theorem u2_ur (S : Nat → Nat → Int) (a j : Nat) (f : Nat → Int) (v : Int) : u2 (ur S a f) a j v = ur S a (fun i => if i = j then v else f i) := by
  funext b i
  unfold u2 ur
  by_cases h : b = a <;> simp [h]
theorem mw_thrown (v : Int) : (mw k g S Y).set 0 (g 0, .inr (6, (cMod g S Y).set 0 (VI v))) = mw k g S (u2 Y 0 0 v) := rfl
theorem mw_mod1 (v : Int) : (mw k g S Y).set 0 (g 0, .inr (6, (cMod g S Y).set 1 (VI v))) = mw k g (u2 S 0 0 v) Y := rfl
theorem mw_mod2 (v : Int) : (mw k g S Y).set 0 (g 0, .inr (6, (cMod g S Y).set 2 (VI v))) = mw k g (u2 S 0 1 v) Y := rfl
theorem mw_mod3 (v : Int) : (mw k g S Y).set 0 (g 0, .inr (6, (cMod g S Y).set 3 (VI v))) = mw k g (u2 S 0 2 v) Y := rfl
theorem mw_mod4 (v : Int) : (mw k g S Y).set 0 (g 0, .inr (6, (cMod g S Y).set 4 (VI v))) = mw k g (u2 S 0 3 v) Y := rfl
theorem mw_mod5 (v : Int) : (mw k g S Y).set 0 (g 0, .inr (6, (cMod g S Y).set 5 (VI v))) = mw k g (u2 S 0 4 v) Y := rfl
theorem mw_mod6 (v : Int) : (mw k g S Y).set 0 (g 0, .inr (6, (cMod g S Y).set 6 (VI v))) = mw k g (u2 S 0 5 v) Y := rfl
theorem mw_mod7 (v : Int) : (mw k g S Y).set 0 (g 0, .inr (6, (cMod g S Y).set 7 (VI v))) = mw k g (u2 S 0 6 v) Y := rfl
theorem mw_mod8 (v : Int) : (mw k g S Y).set 0 (g 0, .inr (6, (cMod g S Y).set 8 (VI v))) = mw k g (u2 S 0 9 v) Y := rfl
theorem mw_mod9 (v : Int) : (mw k g S Y).set 0 (g 0, .inr (6, (cMod g S Y).set 9 (VI v))) = mw k g (u2 S 0 10 v) Y := rfl
theorem mw_mod10 (v : Int) : (mw k g S Y).set 0 (g 0, .inr (6, (cMod g S Y).set 10 (VI v))) = mw k g (u2 S 0 11 v) Y := rfl
theorem mw_mod11 (v : Int) : (mw k g S Y).set 0 (g 0, .inr (6, (cMod g S Y).set 11 (VI v))) = mw k g (u2 S 0 12 v) Y := rfl
theorem mw_mod12 (v : Int) : (mw k g S Y).set 0 (g 0, .inr (6, (cMod g S Y).set 12 (VI v))) = mw k g (u2 S 0 7 v) Y := rfl
theorem mw_mod18 (v : Int) : (mw k g S Y).set 0 (g 0, .inr (6, (cMod g S Y).set 18 (VI v))) = mw k g (u2 S 0 8 v) Y := rfl
theorem mw_leans (f : Nat → Int) (v : Int) (e : codeF f = v) : (mw k g S Y).set 0 (g 0, .inr (6, (cMod g S Y).set 13 (VI v))) = mw k g (ur S 4 f) Y := by
  subst e; rfl
theorem mw_row1 (j : Nat) (v : Int) : (mw k g S Y).set 1 (g 1, .inl (k 0, 3, .inl (upd (fun i => iI (S 1 i)) j (iI v)))) = mw k g (u2 S 1 j v) Y := by
  rw [upd_iI]; rfl
theorem mw_row2 (j : Nat) (v : Int) : (mw k g S Y).set 2 (g 2, .inl (k 0, 3, .inl (upd (fun i => iI (S 2 i)) j (iI v)))) = mw k g (u2 S 2 j v) Y := by
  rw [upd_iI]; rfl
theorem mw_row3 (j : Nat) (v : Int) : (mw k g S Y).set 3 (g 3, .inl (k 0, 3, .inl (upd (fun i => iI (S 3 i)) j (iI v)))) = mw k g (u2 S 3 j v) Y := by
  rw [upd_iI]; rfl
theorem mw_row5 (j : Nat) (v : Int) : (mw k g S Y).set 5 (g 5, .inl (k 0, 8, .inl (upd (fun i => iI (S 5 i)) j (iI v)))) = mw k g (u2 S 5 j v) Y := by
  rw [upd_iI]; rfl
theorem mw_row6 (j : Nat) (v : Int) : (mw k g S Y).set 6 (g 6, .inl (k 0, 8, .inl (upd (fun i => iI (S 6 i)) j (iI v)))) = mw k g (u2 S 6 j v) Y := by
  rw [upd_iI]; rfl
theorem mw_row7 (j : Nat) (v : Int) : (mw k g S Y).set 7 (g 7, .inl (k 0, 8, .inl (upd (fun i => iI (S 7 i)) j (iI v)))) = mw k g (u2 S 7 j v) Y := by
  rw [upd_iI]; rfl
theorem mw_row8 (j : Nat) (v : Int) : (mw k g S Y).set 8 (g 8, .inl (k 0, 8, .inl (upd (fun i => iI (S 8 i)) j (iI v)))) = mw k g (u2 S 8 j v) Y := by
  rw [upd_iI]; rfl
theorem mw_row9 (j : Nat) (v : Int) : (mw k g S Y).set 9 (g 9, .inl (k 0, 1000, .inl (upd (fun i => iI (Y 1 i)) j (iI v)))) = mw k g S (u2 Y 1 j v) := by
  rw [upd_iI]; rfl
theorem mw_row10 (j : Nat) (v : Int) : (mw k g S Y).set 10 (g 10, .inl (k 0, 1000, .inl (upd (fun i => iI (Y 2 i)) j (iI v)))) = mw k g S (u2 Y 2 j v) := by
  rw [upd_iI]; rfl
theorem mw_wide (m y : Nat) (hm : m < 3) (hy : y < 3) (v : Int) : (mw k g S Y).set 4 (g 4, .inl (k 0, 9, .inl (upd (fun j => iI (wdF S j)) (3 * m + y) (iI v)))) = mw k g (u2 S (10 + m) y v) Y := by
  have e : upd (fun j => iI (wdF S j)) (3 * m + y) (iI v) = fun j => iI (wdF (u2 S (10 + m) y v) j) := by
    rw [upd_iI]
    funext j
    congr 1
    unfold wdF u2
    obtain rfl | rfl | rfl : m = 0 ∨ m = 1 ∨ m = 2 := by omega
    all_goals simp
    all_goals grind
  rw [e]
  obtain rfl | rfl | rfl : m = 0 ∨ m = 1 ∨ m = 2 := by omega
  all_goals rfl
end VState
