/-! the specification, over whole numbers: how ones are apart, who is there, seats, turns, years -/
def apS (a b : Int) : Int := min ((a - b) % 180) (180 - (a - b) % 180)
def inO (T : Int) (f : Int → Int) (k : Int) : Int := if inS T k = true then f k else 0
def maO (T : Int) (mat : Int → Int) (k : Int) : Int := if inS T k = true then mat k else -6
def sepM (T : Int) (mat : Int → Int) (k : Int) : Int → Int := if inS T k = true ∧ inS T (maO T mat k) = true then zU (zU mat k (-6)) (maO T mat k) (-6) else mat
def seaM (T : Int) (mat : Int → Int) (a b : Int) : Int → Int := if inS T a = true ∧ inS T b = true then zU (zU mat a b) b a else mat
def whyS (T : Int) (mat : Int → Int) (yr kind one w : Int) : Int :=
  if kind = 46 then (if yr < 999 then 0 else 4)
  else if inS T one = false ∨ (kind = 38 ∧ inS T w = false) then 1
  else if kind = 38 then (if one = w then 2 else if maO T mat one = -6 ∧ maO T mat w = -6 then 0 else 3)
  else if kind = 47 ∧ maO T mat one = -6 then 3 else 0
def turI (T : Int) (inc : Int → Int) (k d : Int) : Int → Int := if inS T k = true then zU inc k ((inc k + d) % 180) else inc
def drS (T : Int) (mat ah : Int → Int) (k : Int) : Int :=
  if inS T k = true ∧ inS T (mat k) = true then (if (ah (mat k) - ah k) % 180 = 0 then 0 else if (ah (mat k) - ah k) % 180 ≤ 90 then 1 else -1) else 0
def yeaI (T : Int) (dri mat inc : Int → Int) : Int → Int := fun k => if inS T k = true then (inc k + dri k + drS T mat inc k) % 180 else inc k
def yeaH (tm yr : Int) : Int := if (yr + 1) % 2 = 0 ∧ tm < 9 then tm + 1 else tm
def actI (T : Int) (dri mat inc : Int → Int) (kind one w : Int) : Int → Int := if kind = 43 then turI T inc one w else if kind = 45 then turI T inc one (-w) else if kind = 46 then yeaI T dri mat inc else inc
def actM (T : Int) (mat : Int → Int) (kind one w : Int) : Int → Int := if kind = 38 then seaM T mat one w else if kind = 47 then sepM T mat one else mat
def actH (tm yr kind : Int) : Int := if kind = 46 then yeaH tm yr else tm
def actY (yr kind : Int) : Int := if kind = 46 then yr + 1 else yr
def pairS (T : Int) (mat : Int → Int) : Int := sumZ (fun k => if maO T mat k > k then 1 else 0) 9
theorem inO_bd {T : Int} {f : Int → Int} {lo hi : Int} (h : zBd f 9 lo hi) (h0 : lo ≤ 0 ∧ 0 ≤ hi) (k : Int) : lo ≤ inO T f k ∧ inO T f k ≤ hi := by
  unfold inO
  by_cases hk : inS T k = true
  · rw [if_pos hk]; exact h.ax k (inS.rng hk)
  · rw [if_neg hk]; exact h0
theorem maO_bd {T : Int} {f : Int → Int} (h : zBd f 9 (-6) 8) (k : Int) : -6 ≤ maO T f k ∧ maO T f k ≤ 8 := by
  unfold maO
  by_cases hk : inS T k = true
  · rw [if_pos hk]; exact h.ax k (inS.rng hk)
  · rw [if_neg hk]; decide
