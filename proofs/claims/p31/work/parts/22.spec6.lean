/-! what the looks tell, and what would be -/
def tfee (R : Nat → Int32) (j : Nat) (q : Int32) : Int32 := if q = 0 then R (38 + 3 * j) else if q = 1 then (if R (39 + 3 * j) = 0 then 0 else 1) else R (40 + 3 * j)
def tset (R : Nat → Int32) (j : Nat) (q : Int32) : Int32 := if q = 0 then R (8 + 10 * j) else if q = 1 then R (9 + 10 * j) else if q = 2 then R (10 + 10 * j) else if q = 3 then (if R (11 + 10 * j) = 0 then 0 else 1) else if q = 4 then (if R (12 + 10 * j) = 0 then 0 else 1)
  else if q = 5 then pw R j (fq R) else if q = 6 then R (13 + 10 * j) else if q = 7 then lam (R (13 + 10 * j)) else if q = 8 then R (14 + 10 * j) else if q = 9 then R (15 + 10 * j) else if q = 10 then R (16 + 10 * j) else if q = 11 then R (17 + 10 * j) else rsn R j
def tcnt (R : Nat → Int32) (n : Nat) (q : Int32) : Int32 := if q = 0 then R 4 else if q = 1 then fq R else if q = 2 then fq R else if q = 3 then ld R else if q = 4 then psum R (fq R) 3 else if q = 5 then lk R (fq R) else if q = 6 then osum R 11 3 else if q = 7 then osum R 12 3
  else if q = 8 then wsum R 17 10 3 else if q = 9 then wsum R 40 3 4 else if q = 10 then R 7 else nI n
def usp (R : Nat → Int32) (j : Nat) (v : Int32) : Nat → Int32 := upd R (10 + 10 * j) v
def tif (R : Nat → Int32) (j : Nat) (v q : Int32) : Int32 := if q = 0 then fq (usp R j v) else if q = 1 then pw (usp R j v) j (fq (usp R j v)) else lk (usp R j v) (fq (usp R j v))
def cgo (R : Nat → Int32) (j : Nat) : Nat → Nat → Int32
  | _, 0 => (-1)
  | i, m + 1 => if rsn (pt R i) j = 0 then nI i else cgo R j (i + 1) m
def cin (R : Nat → Int32) (j : Nat) : Int32 := if R (11 + 10 * j) = 0 then (-1) else cgo R j 0 501
def ngo (R : Nat → Int32) : Nat → Nat → Int32
  | _, 0 => (-1)
  | k, m + 1 => if tkn (pt R k) ≤ 0 then ngo R (k + 1) m else nI (k + 1)
def ntp (R : Nat → Int32) : Int32 := ngo R 0 100
def fdf (R : Nat → Int32) (j : Nat) (sh : Int32) (k : Nat) : Int32 := ab (pw (usp R j (nI (4700 + k))) j (fq (usp R j (nI (4700 + k)))) - sh)
def fbl (R : Nat → Int32) (j : Nat) (sh : Int32) : Nat → Int32 × Int32
  | 0 => ((-1), 0)
  | k + 1 => if (fbl R j sh k).1 = (-1) then (nI (4700 + k), fdf R j sh k) else if fdf R j sh k < (fbl R j sh k).2 then (nI (4700 + k), fdf R j sh k) else fbl R j sh k
def fair (R : Nat → Int32) (j : Nat) : Int32 := if R (12 + 10 * j) = 0 then (-1) else if rat R 3 = 0 then (-1) else (fbl R j (ld R * R (8 + 10 * j) / rat R 3) 601).1
theorem usp_usp {R : Nat → Int32} {j : Nat} {a b : Int32} : upd (usp R j a) (10 + 10 * j) b = usp R j b := by
  funext k
  unfold usp
  by_cases e : k = 10 + 10 * j
  · rw [e, upd_eq, upd_eq]
  · rw [upd_ne e, upd_ne e, upd_ne e]
theorem usp_self {R : Nat → Int32} {j : Nat} : usp R j (R (10 + 10 * j)) = R := by
  funext k
  unfold usp
  by_cases e : k = 10 + 10 * j
  · rw [e, upd_eq]
  · rw [upd_ne e]
def cLook (i q b : Int32) : Int32 := nS i (nR q 0 b 2 0)
def cLine (i q : Int32) : Int32 := nF i (nR q 0 2 2 0)
def cCount (q : Int32) : Int32 := nR q 0 11 1 0
def cSet1 (i : Int32) : Int32 := nF i 0
def cOne (i : Int32) : Int32 := nS i 0
def cIf (i v q : Int32) : Int32 := nS i (nR v 4700 5300 2 (nR q 0 2 2 0))
