/-! the digest -/
def fo (f : Nat → Int32) : Nat → Int64 → Int64
  | 0, h => h
  | k + 1, h => 31 * fo f k h + Int32.toInt64 (f k)
def mws (R : Nat → Int32) (j : Nat) (h : Int64) : Int64 :=
  31 * (31 * fo (fun k => tif R j 5050 (nI k)) 3 (fo (fun k => tset R j (nI k)) 13 h) + Int32.toInt64 (cin R j)) + Int32.toInt64 (fair R j)
def fom (R : Nat → Int32) : Nat → Int64 → Int64
  | 0, h => h
  | k + 1, h => mws R k (fom R k h)
def fof (R : Nat → Int32) : Nat → Int64 → Int64
  | 0, h => h
  | j + 1, h => fo (fun k => tfee R j (nI k)) 3 (fof R j h)
def dig (R : Nat → Int32) (kp : Int32) (n : Nat) (F : Nat → Int32) (len : Nat) (h : Int64) : Int64 :=
  fo (fun k => cod F len k) len (31 * (31 * (31 * (31 * (31 * fof R 4 (fom R 3 (fo (fun k => R k) 4 (fo (fun k => tcnt R n (nI k)) 12 h))) + Int32.toInt64 (ntp R)) + (ldsh R).toInt64) + Int32.toInt64 ((mnpw R).toInt32)) + Int32.toInt64 (if kp = 0 then 0 else 1)) + Int32.toInt64 (nI len))
