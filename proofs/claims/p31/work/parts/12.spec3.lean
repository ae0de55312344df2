/-! the text, and the saved states -/
def TX (D : va_G) (G : Nat → ClassId) (x : Nat → Nat) (F : Nat → Int32) (n : Nat) (H : Heap) : Prop := va_at D vwCl (x 0, .inr (4, [.ref (x 1), .int (nI n)])) H ∧ va_at D vwCl (x 1, .inl (G 0, 60, .inl F)) H
def btw (c a b t : Int32) : Int32 := if c < a then 0 else if b < c then 0 else t
def aftl (c : Int32) : Int32 := if c = 115 then 3 else if c = 114 then 2 else if c = 104 then 2 else if c = 99 then 2 else if c = 111 then 2 else if c = 102 then 12 else if c = 116 then 14 else 0
def nxt (q c : Int32) : Int32 := if q = 1 then aftl c else if q = 2 then btw c 48 50 16 else if q = 3 then btw c 48 50 4 else if q = 4 then btw c 61 61 5
  else if q = 5 then (if c = 53 then 7 else btw c 52 52 6) else if q = 6 then btw c 55 57 10 else if q = 7 then (if c = 51 then 8 else btw c 48 50 10) else if q = 8 then btw c 48 48 9
  else if q = 9 then btw c 48 48 16 else if q = 10 then btw c 48 57 11 else if q = 11 then btw c 48 57 16 else if q = 12 then btw c 48 51 13 else if q = 13 then (if c = 45 then 16 else btw c 43 43 16)
  else if q = 14 then btw c 49 57 15 else if q = 15 then (if c = 59 then 1 else btw c 48 57 16) else if q = 16 then btw c 59 59 1 else 0
def dfa (F : Nat → Int32) : Nat → Int32
  | 0 => 1
  | k + 1 => nxt (dfa F k) (F k)
/-- from i on, the first place of the next m that is wrong -/
def fwr (F : Nat → Int32) : Nat → Nat → Nat
  | i, 0 => i
  | i, m + 1 => if dfa F (i + 1) = 0 then i else fwr F (i + 1) m
def eop (F : Nat → Int32) : Nat → Nat → Nat
  | i, 0 => i
  | i, m + 1 => if F i = 59 then i else eop F (i + 1) m
def cod (F : Nat → Int32) (n k : Nat) : Int32 := if k < n then F k else 0
def nmb (F : Nat → Int32) (n a : Nat) : Nat → Int32
  | 0 => 0
  | k + 1 => 10 * nmb F n a k + cod F n (a + k) - 48
theorem cod_in {F : Nat → Int32} {n k : Nat} (h : k < n) : cod F n k = F k := by rw [cod, if_pos h]
theorem cod_out {F : Nat → Int32} {n k : Nat} (h : n ≤ k) : cod F n k = 0 := by rw [cod, if_neg (by omega)]
theorem TX.putN {D : va_G} {G : Nat → ClassId} {x : Nat → Nat} {F : Nat → Int32} {n k : Nat} {H H1 : Heap} (h : TX D G x F n H) (hn : inj 2 x) (ha : va_at D vwCl (x 0, .inr (4, [.ref (x 1), .int (nI k)])) H1) (hq : ∀ q : Nat, q ≠ x 0 → H1[q]? = H[q]?) : TX D G x F k H1 :=
  ⟨ha, h.2.kept (hq _ (fun e => absurd (hn 1 0 (by omega) (by omega) e) (by omega)))⟩
theorem TX.putC {D : va_G} {G : Nat → ClassId} {x : Nat → Nat} {F F' : Nat → Int32} {n : Nat} {H H1 : Heap} (h : TX D G x F n H) (hn : inj 2 x) (ha : va_at D vwCl (x 1, .inl (G 0, 60, .inl F')) H1) (hq : ∀ q : Nat, q ≠ x 1 → H1[q]? = H[q]?) : TX D G x F' n H1 :=
  ⟨h.1.kept (hq _ (fun e => absurd (hn 0 1 (by omega) (by omega) e) (by omega))), ha⟩
/-- the saved states: the history's two cells h, six boards B, and the order p in which the row of states has them -/
def HI (D : va_G) (G : Nat → ClassId) (h : Nat → Nat) (B : Nat → Nat → Nat) (w : Nat → Nat) (sv : Nat → Nat → Int32) (n : Nat) (H : Heap) : Prop :=
  va_at D vwCl (h 0, .inr (3, [.ref (h 1), .int (nI n)])) H ∧ va_at D vwCl (h 1, .inl (G 3, 6, rfs (fun i => some (B (w i) 0)))) H ∧ ∀ i, i < 6 → BD D G (B (w i)) (sv i) H
/-- an order of six -/
def pm (w : Nat → Nat) : Prop := (∀ i, i < 6 → w i < 6) ∧ inj 6 w
/-- the cells are apart -/
def hap (h : Nat → Nat) (B : Nat → Nat → Nat) : Prop := inj 2 h ∧ (∀ i j k l, i < 6 → j < 6 → k < 11 → l < 11 → B i k = B j l → i = j ∧ k = l) ∧ ∀ i j k, i < 2 → j < 6 → k < 11 → h i ≠ B j k
def hA (h : Nat → Nat) (B : Nat → Nat → Nat) : Nat → Prop := fun q => (∃ i, i < 2 ∧ q = h i) ∨ ∃ j k, j < 6 ∧ k < 11 ∧ q = B j k
theorem at_congq {D : va_G} {cl : List vw_C} {a n : Nat} {cA : ClassId} {f g : Nat → Option Nat} {H : Heap} (h : va_at D cl (a, .inl (cA, n, rfs f)) H) (hq : ∀ j, j < n → f j = g j) : va_at D cl (a, .inl (cA, n, rfs g)) H := by
  have h' : H[a]? = some (vp_cell cA (n, rfs f)) := h
  show H[a]? = some (vp_cell cA (n, rfs g))
  rw [h']
  unfold rfs
  rw [vp_cell_q, vp_cell_q, arrV_cong (fun j hj => by rw [hq j hj])]
def rot (w : Nat → Nat) : Nat → Nat := fun i => if i < 5 then w (i + 1) else w 0
theorem pm_rot {w : Nat → Nat} (h : pm w) : pm (rot w) := by
  refine ⟨fun i hi => ?_, fun i j hi hj e => ?_⟩
  · unfold rot
    split
    · exact h.1 _ (by omega)
    · exact h.1 _ (by omega)
  · unfold rot at e
    split at e
    · split at e
      · have := h.2 _ _ (by omega) (by omega) e; omega
      · have := h.2 _ _ (by omega) (by omega) e; omega
    · split at e
      · have := h.2 _ _ (by omega) (by omega) e; omega
      · omega
/-- what is saved behind a save -/
def svs (sv : Nat → Nat → Int32) (n : Nat) (R : Nat → Int32) : Nat → Nat → Int32 := if n < 6 then (fun i => if i = n then R else sv i) else fun i => if i < 5 then sv (i + 1) else R
def svn (n : Nat) : Nat := if n < 6 then n + 1 else 6
theorem hap_ne {h : Nat → Nat} {B : Nat → Nat → Nat} (ha : hap h B) {i j k : Nat} (hi : i < 2) (hj : j < 6) (hk : k < 11) : B j k ≠ h i := fun e => ha.2.2 i j k hi hj hk e.symm
theorem hap_in {h : Nat → Nat} {B : Nat → Nat → Nat} (ha : hap h B) {j : Nat} (hj : j < 6) : inj 11 (B j) := fun i k hi hk e => (ha.2.1 j j i k hj hj hi hk e).2
