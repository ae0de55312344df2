/-! the state in words: a row R of 50 numbers (settings 0 to 3, ticks 4, trips 5, sheds 6, energy 7, ten for each set from 8, three for each feeder from 38); a Board holds such a row, spread over its cells b 0 to b 10; the reference holds it in one array -/
def dF (R : Nat → Int32) (i : Nat) : List Value := [.int (R (8 + 10 * i)), .int (R (9 + 10 * i)), .int (R (10 + 10 * i)), .int (R (11 + 10 * i)), .int (R (12 + 10 * i)), .int (R (13 + 10 * i)), .int (R (14 + 10 * i)), .int (R (15 + 10 * i)), .int (R (16 + 10 * i)), .int (R (17 + 10 * i))]
def fF (R : Nat → Int32) (i : Nat) : List Value := [.int (R (38 + 3 * i)), .int (R (39 + 3 * i)), .int (R (40 + 3 * i))]
def rfs (f : Nat → Option Nat) : (Nat → Int32) ⊕ (Nat → Int64) ⊕ (Nat → UInt32) ⊕ (Nat → UInt64) ⊕ (Nat → Option Nat) := .inr (.inr (.inr (.inr f)))
def bF (b : Nat → Nat) (R : Nat → Int32) : List Value := [.ref (b 1), .ref (b 2), .ref (b 3), .int (R 4), .int (R 7)]
def BD (D : va_G) (G : Nat → ClassId) (b : Nat → Nat) (R : Nat → Int32) (H : Heap) : Prop :=
  va_at D vwCl (b 0, .inr (0, bF b R)) H ∧
  va_at D vwCl (b 1, .inl (G 1, 3, rfs (fun i => some (b (4 + i))))) H ∧
  va_at D vwCl (b 2, .inl (G 2, 4, rfs (fun i => some (b (7 + i))))) H ∧
  va_at D vwCl (b 3, .inl (G 0, 4, .inl R)) H ∧
  (∀ i, i < 3 → va_at D vwCl (b (4 + i), .inr (1, dF R i)) H) ∧ ∀ i, i < 4 → va_at D vwCl (b (7 + i), .inr (2, fF R i)) H
theorem BD.lt {D : va_G} {G : Nat → ClassId} {b : Nat → Nat} {R : Nat → Int32} {H : Heap} (h : BD D G b R H) : ∀ k, k < 11 → b k < H.size := by
  intro k hk
  obtain ⟨h0, h1, h2, h3, h4, h5⟩ := h
  match k, hk with
  | 0, _ => exact h0.lt
  | 1, _ => exact h1.lt
  | 2, _ => exact h2.lt
  | 3, _ => exact h3.lt
  | 4, _ => exact (h4 0 (by omega)).lt
  | 5, _ => exact (h4 1 (by omega)).lt
  | 6, _ => exact (h4 2 (by omega)).lt
  | 7, _ => exact (h5 0 (by omega)).lt
  | 8, _ => exact (h5 1 (by omega)).lt
  | 9, _ => exact (h5 2 (by omega)).lt
  | 10, _ => exact (h5 3 (by omega)).lt
theorem BD.kept {D : va_G} {G : Nat → ClassId} {b : Nat → Nat} {R : Nat → Int32} {H H1 : Heap} (h : BD D G b R H) (hq : ∀ k, k < 11 → H1[b k]? = H[b k]?) : BD D G b R H1 := by
  obtain ⟨h0, h1, h2, h3, h4, h5⟩ := h
  exact ⟨h0.kept (hq 0 (by omega)), h1.kept (hq 1 (by omega)), h2.kept (hq 2 (by omega)), h3.kept (hq 3 (by omega)), fun i hi => (h4 i hi).kept (hq (4 + i) (by omega)), fun i hi => (h5 i hi).kept (hq (7 + i) (by omega))⟩
theorem arrV_cong {cA : ClassId} {n : Nat} {f g : Nat → Value} (h : ∀ j, j < n → f j = g j) : arrV cA n f = arrV cA n g := by
  unfold arrV
  have e : (fun j : Fin n => f j.val) = fun j : Fin n => g j.val := funext fun j => h j.val j.isLt
  rw [e]
/-- an array's cell depends on its places alone -/
theorem at_congr {D : va_G} {cl : List vw_C} {a n : Nat} {cA : ClassId} {f g : Nat → Int32} {H : Heap} (h : va_at D cl (a, .inl (cA, n, .inl f)) H) (hq : ∀ j, j < n → f j = g j) : va_at D cl (a, .inl (cA, n, .inl g)) H := by
  have h' : H[a]? = some (vp_cell cA (n, .inl f)) := h
  show H[a]? = some (vp_cell cA (n, .inl g))
  rw [h', vp_cell_i, vp_cell_i]
  rw [arrV_cong (fun j hj => by rw [hq j hj])]
theorem BD.congr {D : va_G} {G : Nat → ClassId} {b : Nat → Nat} {R R' : Nat → Int32} {H : Heap} (h : BD D G b R H) (hq : ∀ k, k < 50 → k ≠ 5 → k ≠ 6 → R k = R' k) : BD D G b R' H := by
  obtain ⟨h0, h1, h2, h3, h4, h5⟩ := h
  refine ⟨?_, h1, h2, at_congr h3 (fun j hj => hq j (by omega) (by omega) (by omega)), fun i hi => ?_, fun i hi => ?_⟩
  · have e : bF b R = bF b R' := by simp only [bF]; rw [hq 4 (by omega) (by omega) (by omega), hq 7 (by omega) (by omega) (by omega)]
    rw [← e]; exact h0
  · have e : dF R i = dF R' i := by
      simp only [dF]
      rw [hq (8 + 10 * i) (by omega) (by omega) (by omega), hq (9 + 10 * i) (by omega) (by omega) (by omega), hq (10 + 10 * i) (by omega) (by omega) (by omega), hq (11 + 10 * i) (by omega) (by omega) (by omega), hq (12 + 10 * i) (by omega) (by omega) (by omega), hq (13 + 10 * i) (by omega) (by omega) (by omega), hq (14 + 10 * i) (by omega) (by omega) (by omega), hq (15 + 10 * i) (by omega) (by omega) (by omega), hq (16 + 10 * i) (by omega) (by omega) (by omega), hq (17 + 10 * i) (by omega) (by omega) (by omega)]
    rw [← e]; exact h4 i hi
  · have e : fF R i = fF R' i := by
      simp only [fF]
      rw [hq (38 + 3 * i) (by omega) (by omega) (by omega), hq (39 + 3 * i) (by omega) (by omega) (by omega), hq (40 + 3 * i) (by omega) (by omega) (by omega)]
    rw [← e]; exact h5 i hi
/-- the addresses of a group of n are apart -/
def inj (n : Nat) (b : Nat → Nat) : Prop := ∀ i j, i < n → j < n → b i = b j → i = j
/-- b's cells -/
def bA (n : Nat) (b : Nat → Nat) : Nat → Prop := fun q => ∃ k, k < n ∧ q = b k
/-- behind a change of set i alone -/
theorem BD.setD {D : va_G} {G : Nat → ClassId} {b : Nat → Nat} {R R' : Nat → Int32} {H H1 : Heap} (h : BD D G b R H) (hn : inj 11 b) {i : Nat} (hi : i < 3) (ha : va_at D vwCl (b (4 + i), .inr (1, dF R' i)) H1) (hk : ∀ q : Nat, q < H.size → q ≠ b (4 + i) → H1[q]? = H[q]?) (hR : ∀ k, k < 50 → (k < 8 + 10 * i ∨ 18 + 10 * i ≤ k) → R' k = R k) : BD D G b R' H1 := by
  have hlt := h.lt
  have kp : ∀ k, k < 11 → k ≠ 4 + i → H1[b k]? = H[b k]? := fun k hk1 hne => hk _ (hlt k hk1) (fun e => hne (hn k (4 + i) hk1 (by omega) e))
  obtain ⟨h0, h1, h2, h3, h4, h5⟩ := h
  refine ⟨?_, h1.kept (kp 1 (by omega) (by omega)), h2.kept (kp 2 (by omega) (by omega)), at_congr (h3.kept (kp 3 (by omega) (by omega))) (fun j hj => (hR j (by omega) (by omega)).symm), fun j hj => ?_, fun j hj => ?_⟩
  · have e : bF b R' = bF b R := by simp only [bF]; rw [hR 4 (by omega) (by omega), hR 7 (by omega) (by omega)]
    rw [e]; exact h0.kept (kp 0 (by omega) (by omega))
  · by_cases hji : j = i
    · subst hji; exact ha
    · have e : dF R' j = dF R j := by
        simp only [dF]
        rw [hR (8 + 10 * j) (by omega) (by omega), hR (9 + 10 * j) (by omega) (by omega), hR (10 + 10 * j) (by omega) (by omega), hR (11 + 10 * j) (by omega) (by omega), hR (12 + 10 * j) (by omega) (by omega), hR (13 + 10 * j) (by omega) (by omega), hR (14 + 10 * j) (by omega) (by omega), hR (15 + 10 * j) (by omega) (by omega), hR (16 + 10 * j) (by omega) (by omega), hR (17 + 10 * j) (by omega) (by omega)]
      rw [e]; exact (h4 j hj).kept (kp (4 + j) (by omega) (by omega))
  · have e : fF R' j = fF R j := by
      simp only [fF]
      rw [hR (38 + 3 * j) (by omega) (by omega), hR (39 + 3 * j) (by omega) (by omega), hR (40 + 3 * j) (by omega) (by omega)]
    rw [e]; exact (h5 j hj).kept (kp (7 + j) (by omega) (by omega))
/-- behind a change of feeder i alone -/
theorem BD.setF {D : va_G} {G : Nat → ClassId} {b : Nat → Nat} {R R' : Nat → Int32} {H H1 : Heap} (h : BD D G b R H) (hn : inj 11 b) {i : Nat} (hi : i < 4) (ha : va_at D vwCl (b (7 + i), .inr (2, fF R' i)) H1) (hk : ∀ q : Nat, q < H.size → q ≠ b (7 + i) → H1[q]? = H[q]?) (hR : ∀ k, k < 50 → k ≠ 6 → (k < 38 + 3 * i ∨ 41 + 3 * i ≤ k) → R' k = R k) : BD D G b R' H1 := by
  have hlt := h.lt
  have kp : ∀ k, k < 11 → k ≠ 7 + i → H1[b k]? = H[b k]? := fun k hk1 hne => hk _ (hlt k hk1) (fun e => hne (hn k (7 + i) hk1 (by omega) e))
  obtain ⟨h0, h1, h2, h3, h4, h5⟩ := h
  refine ⟨?_, h1.kept (kp 1 (by omega) (by omega)), h2.kept (kp 2 (by omega) (by omega)), at_congr (h3.kept (kp 3 (by omega) (by omega))) (fun j hj => (hR j (by omega) (by omega) (by omega)).symm), fun j hj => ?_, fun j hj => ?_⟩
  · have e : bF b R' = bF b R := by simp only [bF]; rw [hR 4 (by omega) (by omega) (by omega), hR 7 (by omega) (by omega) (by omega)]
    rw [e]; exact h0.kept (kp 0 (by omega) (by omega))
  · have e : dF R' j = dF R j := by
      simp only [dF]
      rw [hR (8 + 10 * j) (by omega) (by omega) (by omega), hR (9 + 10 * j) (by omega) (by omega) (by omega), hR (10 + 10 * j) (by omega) (by omega) (by omega), hR (11 + 10 * j) (by omega) (by omega) (by omega), hR (12 + 10 * j) (by omega) (by omega) (by omega), hR (13 + 10 * j) (by omega) (by omega) (by omega), hR (14 + 10 * j) (by omega) (by omega) (by omega), hR (15 + 10 * j) (by omega) (by omega) (by omega), hR (16 + 10 * j) (by omega) (by omega) (by omega), hR (17 + 10 * j) (by omega) (by omega) (by omega)]
    rw [e]; exact (h4 j hj).kept (kp (4 + j) (by omega) (by omega))
  · by_cases hji : j = i
    · subst hji; exact ha
    · have e : fF R' j = fF R j := by
        simp only [fF]
        rw [hR (38 + 3 * j) (by omega) (by omega) (by omega), hR (39 + 3 * j) (by omega) (by omega) (by omega), hR (40 + 3 * j) (by omega) (by omega) (by omega)]
      rw [e]; exact (h5 j hj).kept (kp (7 + j) (by omega) (by omega))
/-- behind a change of ticks and energy -/
theorem BD.setO {D : va_G} {G : Nat → ClassId} {b : Nat → Nat} {R R' : Nat → Int32} {H H1 : Heap} (h : BD D G b R H) (hn : inj 11 b) (ha : va_at D vwCl (b 0, .inr (0, bF b R')) H1) (hk : ∀ q : Nat, q < H.size → q ≠ b 0 → H1[q]? = H[q]?) (hR : ∀ k, k < 50 → k ≠ 4 → k ≠ 7 → R' k = R k) : BD D G b R' H1 := by
  have hlt := h.lt
  have kp : ∀ k, k < 11 → k ≠ 0 → H1[b k]? = H[b k]? := fun k hk1 hne => hk _ (hlt k hk1) (fun e => hne (hn k 0 hk1 (by omega) e))
  obtain ⟨h0, h1, h2, h3, h4, h5⟩ := h
  have h9 : BD D G b (fun k => if k = 4 then R' 4 else if k = 7 then R' 7 else R k) H1 := by
    refine ⟨ha, h1.kept (kp 1 (by omega) (by omega)), h2.kept (kp 2 (by omega) (by omega)), at_congr (h3.kept (kp 3 (by omega) (by omega))) (fun j hj => ?_), fun j hj => ?_, fun j hj => ?_⟩
    · rw [if_neg (by omega), if_neg (by omega)]
    · have e : dF (fun k => if k = 4 then R' 4 else if k = 7 then R' 7 else R k) j = dF R j := by
        simp only [dF]
        repeat rw [if_neg (by omega), if_neg (by omega)]
      rw [e]; exact (h4 j hj).kept (kp (4 + j) (by omega) (by omega))
    · have e : fF (fun k => if k = 4 then R' 4 else if k = 7 then R' 7 else R k) j = fF R j := by
        simp only [fF]
        repeat rw [if_neg (by omega), if_neg (by omega)]
      rw [e]; exact (h5 j hj).kept (kp (7 + j) (by omega) (by omega))
  refine h9.congr (fun k hk _ _ => ?_)
  by_cases e4 : k = 4
  · subst e4; simp
  · by_cases e7 : k = 7
    · subst e7; simp
    · simp [e4, e7, hR k hk e4 e7]
/-- behind a change of the settings -/
theorem BD.setS {D : va_G} {G : Nat → ClassId} {b : Nat → Nat} {R R' : Nat → Int32} {H H1 : Heap} (h : BD D G b R H) (hn : inj 11 b) (ha : va_at D vwCl (b 3, .inl (G 0, 4, .inl R')) H1) (hk : ∀ q : Nat, q < H.size → q ≠ b 3 → H1[q]? = H[q]?) (hR : ∀ k, k < 50 → 4 ≤ k → R' k = R k) : BD D G b R' H1 := by
  have hlt := h.lt
  have kp : ∀ k, k < 11 → k ≠ 3 → H1[b k]? = H[b k]? := fun k hk1 hne => hk _ (hlt k hk1) (fun e => hne (hn k 3 hk1 (by omega) e))
  obtain ⟨h0, h1, h2, h3, h4, h5⟩ := h
  refine ⟨?_, h1.kept (kp 1 (by omega) (by omega)), h2.kept (kp 2 (by omega) (by omega)), ha, fun j hj => ?_, fun j hj => ?_⟩
  · have e : bF b R' = bF b R := by simp only [bF]; rw [hR 4 (by omega) (by omega), hR 7 (by omega) (by omega)]
    rw [e]; exact h0.kept (kp 0 (by omega) (by omega))
  · have e : dF R' j = dF R j := by
      simp only [dF]
      rw [hR (8 + 10 * j) (by omega) (by omega), hR (9 + 10 * j) (by omega) (by omega), hR (10 + 10 * j) (by omega) (by omega), hR (11 + 10 * j) (by omega) (by omega), hR (12 + 10 * j) (by omega) (by omega), hR (13 + 10 * j) (by omega) (by omega), hR (14 + 10 * j) (by omega) (by omega), hR (15 + 10 * j) (by omega) (by omega), hR (16 + 10 * j) (by omega) (by omega), hR (17 + 10 * j) (by omega) (by omega)]
    rw [e]; exact (h4 j hj).kept (kp (4 + j) (by omega) (by omega))
  · have e : fF R' j = fF R j := by
      simp only [fF]
      rw [hR (38 + 3 * j) (by omega) (by omega), hR (39 + 3 * j) (by omega) (by omega), hR (40 + 3 * j) (by omega) (by omega)]
    rw [e]; exact (h5 j hj).kept (kp (7 + j) (by omega) (by omega))
/-! what the document's words are, of a row -/
def gv (R : Nat → Int32) (i : Nat) (f : Int32) : Int32 := if R (12 + 10 * i) = 0 then 0 else (R (10 + 10 * i) - f) * R (8 + 10 * i) / R (9 + 10 * i)
def alv (R : Nat → Int32) : Int32 := if R 12 = 0 ∧ R 22 = 0 ∧ R 32 = 0 then 0 else 1
def lsum (R : Nat → Int32) : Nat → Int32
  | 0 => 0
  | k + 1 => if R (39 + 3 * k) = 0 then lsum R k else lsum R k + R (38 + 3 * k)
def ld (R : Nat → Int32) : Int32 := if alv R = 0 then 0 else lsum R 4
def tsum (R : Nat → Int32) (f : Int32) : Nat → Int32
  | 0 => 0
  | k + 1 => tsum R f k + gv R k f
def tot (R : Nat → Int32) (f : Int32) : Int32 := tsum R f 3
def fok (R : Nat → Int32) (k : Nat) : Bool := decide (ld R ≤ tot R (nI (4700 + k)))
/-- the greatest k up to n of which ok says yes, else 0 -/
def fsb (ok : Nat → Bool) : Nat → Nat
  | 0 => 0
  | n + 1 => if ok (n + 1) = true then n + 1 else fsb ok n
def fq (R : Nat → Int32) : Int32 := if alv R = 0 then 0 else nI (4700 + fsb (fok R) 600)
def lw (R : Nat → Int32) : Int32 := if ¬ R 12 = 0 then 0 else if ¬ R 22 = 0 then 1 else if ¬ R 32 = 0 then 2 else (-1)
def pw (R : Nat → Int32) (i : Nat) (f : Int32) : Int32 := if nI i = lw R then gv R i f - mx (tot R f - ld R) 0 else gv R i f
def psum (R : Nat → Int32) (f : Int32) : Nat → Int32
  | 0 => 0
  | k + 1 => psum R f k + pw R k f
def lk (R : Nat → Int32) (f : Int32) : Int32 := mx (ld R - tot R f) 0
def lam (x : Int32) : Int32 := mn x (1000 - x)
def rsn (R : Nat → Int32) (i : Nat) : Int32 := if R (11 + 10 * i) = 0 then 1 else if ¬ R (12 + 10 * i) = 0 then 2 else if alv R = 0 then 0 else if ab (R (10 + 10 * i) - fq R) ≤ R 2 then (if lam (R (13 + 10 * i)) ≤ R 3 then 0 else 4) else 3
/-- how many of the sets say yes at place w -/
def osum (R : Nat → Int32) (w : Nat) : Nat → Int32
  | 0 => 0
  | k + 1 => osum R w k + (if R (w + 10 * k) = 0 then 0 else 1)
def rat (R : Nat → Int32) : Nat → Int32
  | 0 => 0
  | k + 1 => if R (12 + 10 * k) = 0 then rat R k else rat R k + R (8 + 10 * k)
def wsum (R : Nat → Int32) (w d : Nat) : Nat → Int32
  | 0 => 0
  | k + 1 => wsum R w d k + R (w + d * k)
def rst (R : Nat → Int32) (i : Nat) : Nat → Int32 := upd (upd (upd R (13 + 10 * i) 0) (14 + 10 * i) 0) (15 + 10 * i) 0
def fmd (x y : Int32) : Int32 := if 0 ≤ x ^^^ y then x - x / y * y else if x - x / y * y = 0 then x - x / y * y else x - x / y * y + y
/-- a set's part of a tick, but for the trip -/
def dtk (R : Nat → Int32) (i : Nat) (w f : Int32) : Nat → Int32 :=
  if R (12 + 10 * i) = 0 then (if R (11 + 10 * i) = 0 then upd R (16 + 10 * i) (R (16 + 10 * i) + w) else if f ≤ 0 then upd R (16 + 10 * i) (R (16 + 10 * i) + w) else upd (upd R (16 + 10 * i) (R (16 + 10 * i) + w)) (13 + 10 * i) (fmd (R (13 + 10 * i) + R (10 + 10 * i) - f) 1000))
  else upd (upd (upd R (16 + 10 * i) (R (16 + 10 * i) + w)) (14 + 10 * i) (if w ≤ R (8 + 10 * i) + R (8 + 10 * i) / 10 then 0 else R (14 + 10 * i) + 1)) (15 + 10 * i) (if -(R (8 + 10 * i) / 20) ≤ w then 0 else R (15 + 10 * i) + 1)
