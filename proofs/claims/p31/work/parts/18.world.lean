/-! the whole object: its cells are a 0 to a 103: 0 itself, 1 and 2 the history and its row, 3 and 4 the text and its codes, 5 + 11 j .. the boards (0 the board, 1 the trial, 2 the snapshot, 3 to 8 the saved ones) -/
def aB (α : Nat → Nat) (j : Nat) : Nat → Nat := fun k => α (5 + 11 * j + k)
def hh (α : Nat → Nat) : Nat → Nat := fun k => α (1 + k)
def tx (α : Nat → Nat) : Nat → Nat := fun k => α (3 + k)
def sB (α : Nat → Nat) : Nat → Nat → Nat := fun j => aB α (3 + j)
def oF (α : Nat → Nat) (kp : Int32) : List Value := [.ref (aB α 0 0), .ref (aB α 1 0), .ref (aB α 2 0), .int kp, .ref (hh α 0), .ref (tx α 0)]
def DP (D : va_G) (G : Nat → ClassId) (α : Nat → Nat) (w : Nat → Nat) (R RT RS : Nat → Int32) (kp : Int32) (sv : Nat → Nat → Int32) (n : Nat) (F : Nat → Int32) (len : Nat) (H : Heap) : Prop :=
  va_at D vwCl (α 0, .inr (5, oF α kp)) H ∧ BD D G (aB α 0) R H ∧ BD D G (aB α 1) RT H ∧ BD D G (aB α 2) RS H ∧ HI D G (hh α) (sB α) w sv n H ∧ TX D G (tx α) F len H
/-- what is changed at most: the cells of the places P -/
def pA (α : Nat → Nat) (P : Nat → Prop) : Nat → Prop := fun q => ∃ k, P k ∧ q = α k
theorem aB_inj {α : Nat → Nat} (hα : inj 115 α) {j : Nat} (hj : j < 9) : inj 11 (aB α j) := fun i k hi hk e => by
  have := hα _ _ (by omega) (by omega) e
  omega
theorem aB_ne {α : Nat → Nat} (hα : inj 115 α) {i j : Nat} (hi : i < 9) (hj : j < 9) (h : i ≠ j) : ∀ k q, k < 11 → q < 11 → aB α i k ≠ aB α j q := fun k q hk hq e => by
  have := hα _ _ (by omega) (by omega) e
  omega
theorem hap_a {α : Nat → Nat} (hα : inj 115 α) : hap (hh α) (sB α) := by
  refine ⟨fun i j hi hj e => ?_, fun i j k q hi hj hk hq e => ?_, fun i j k hi hj hk e => ?_⟩
  · have := hα _ _ (by omega) (by omega) e; omega
  · have := hα _ _ (by omega) (by omega) e; omega
  · have := hα _ _ (by omega) (by omega) e; omega
theorem tx_inj {α : Nat → Nat} (hα : inj 115 α) : inj 2 (tx α) := fun i j hi hj e => by
  have := hα _ _ (by omega) (by omega) e
  omega
theorem keepP {α : Nat → Nat} (hα : inj 115 α) {P : Nat → Prop} {A : Nat → Prop} {H H1 : Heap} (hP : ∀ q, A q → pA α P q) (hP5 : ∀ k, P k → k < 115) (hk : ∀ q : Nat, q < H.size → ¬ A q → H1[q]? = H[q]?) : ∀ k, k < 115 → ¬ P k → α k < H.size → H1[α k]? = H[α k]? := by
  intro k hk1 hn hlt
  refine hk _ hlt (fun hA => ?_)
  obtain ⟨k2, h2, e⟩ := hP _ hA
  have := hα _ _ hk1 (hP5 _ h2) e
  subst this
  exact hn h2
theorem BD.kp {D : va_G} {G : Nat → ClassId} {α : Nat → Nat} {R : Nat → Int32} {H H1 : Heap} {P : Nat → Prop} {j : Nat} (h : BD D G (aB α j) R H) (hj : j < 9) (hk : ∀ k, k < 115 → ¬ P k → α k < H.size → H1[α k]? = H[α k]?) (hn : ∀ k, 5 + 11 * j ≤ k → k < 16 + 11 * j → ¬ P k) : BD D G (aB α j) R H1 :=
  h.kept (fun k hk1 => hk _ (by omega) (hn _ (by omega) (by omega)) (h.lt k hk1))
theorem HI.kp {D : va_G} {G : Nat → ClassId} {α : Nat → Nat} {w : Nat → Nat} {sv : Nat → Nat → Int32} {n : Nat} {H H1 : Heap} {P : Nat → Prop} (h : HI D G (hh α) (sB α) w sv n H) (hw : pm w) (hk : ∀ k, k < 115 → ¬ P k → α k < H.size → H1[α k]? = H[α k]?) (h1 : ¬ P 1) (h2 : ¬ P 2) (hn : ∀ k, 38 ≤ k → k < 104 → ¬ P k) : HI D G (hh α) (sB α) w sv n H1 :=
  ⟨h.1.kept (hk 1 (by omega) h1 h.1.lt), h.2.1.kept (hk 2 (by omega) h2 h.2.1.lt), fun i hi => (h.2.2 i hi).kept (fun k hk1 => by
    have := hw.1 i hi
    exact hk _ (by omega) (hn _ (by omega) (by omega)) ((h.2.2 i hi).lt k hk1))⟩
theorem TX.kp {D : va_G} {G : Nat → ClassId} {α : Nat → Nat} {F : Nat → Int32} {n : Nat} {H H1 : Heap} {P : Nat → Prop} (h : TX D G (tx α) F n H) (hk : ∀ k, k < 115 → ¬ P k → α k < H.size → H1[α k]? = H[α k]?) (h3 : ¬ P 3) (h4 : ¬ P 4) : TX D G (tx α) F n H1 :=
  ⟨h.1.kept (hk 3 (by omega) h3 h.1.lt), h.2.kept (hk 4 (by omega) h4 h.2.lt)⟩
section DPS
variable {D : va_G} {G : Nat → ClassId} {α : Nat → Nat} {w : Nat → Nat} {R RT RS : Nat → Int32} {kp : Int32} {sv : Nat → Nat → Int32} {n : Nat} {F : Nat → Int32} {len : Nat} {H H1 : Heap}
theorem pA_b {j : Nat} : ∀ q, bA 11 (aB α j) q → pA α (fun k => 5 + 11 * j ≤ k ∧ k < 16 + 11 * j) q := fun q h => by
  obtain ⟨k, hk, e⟩ := h
  exact ⟨5 + 11 * j + k, ⟨by omega, by omega⟩, e⟩
theorem pA_h : ∀ q, hA (hh α) (sB α) q → pA α (fun k => k = 1 ∨ k = 2 ∨ (38 ≤ k ∧ k < 104)) q := fun q h => by
  rcases h with ⟨i, hi, e⟩ | ⟨j, k, hj, hk, e⟩
  · exact ⟨1 + i, by omega, e⟩
  · exact ⟨5 + 11 * (3 + j) + k, Or.inr (Or.inr ⟨by omega, by omega⟩), e⟩
theorem pA_t : ∀ q, bA 2 (tx α) q → pA α (fun k => k = 3 ∨ k = 4) q := fun q h => by
  obtain ⟨k, hk, e⟩ := h
  exact ⟨3 + k, by omega, e⟩
theorem pA_r : ∀ q, (q = hh α 0 ∨ bA 11 (aB α 0) q) → pA α (fun k => k = 1 ∨ (5 ≤ k ∧ k < 16)) q := fun q h => by
  rcases h with e | ⟨k, hk, e⟩
  · exact ⟨1, Or.inl rfl, e⟩
  · exact ⟨5 + k, Or.inr ⟨by omega, by omega⟩, by rw [e]; rfl⟩
/-- the board alone has changed -/
theorem DP.board {R' : Nat → Int32} {A : Nat → Prop} (h : DP D G α w R RT RS kp sv n F len H) (hα : inj 115 α) (hw : pm w) (hb : BD D G (aB α 0) R' H1) (hA : ∀ q, A q → bA 11 (aB α 0) q) (hk : ∀ q : Nat, q < H.size → ¬ A q → H1[q]? = H[q]?) : DP D G α w R' RT RS kp sv n F len H1 := by
  have K := keepP hα (fun q hq => pA_b q (hA q hq)) (fun k h => by omega) hk
  obtain ⟨h0, h1, h2, h3, h4, h5⟩ := h
  exact ⟨h0.kept (K 0 (by omega) (by omega) h0.lt), hb, h2.kp (by omega) K (fun k q1 q2 => by omega), h3.kp (by omega) K (fun k q1 q2 => by omega), h4.kp hw K (by omega) (by omega) (fun k q1 q2 => by omega), h5.kp K (by omega) (by omega)⟩
theorem DP.trial {RT' : Nat → Int32} {A : Nat → Prop} (h : DP D G α w R RT RS kp sv n F len H) (hα : inj 115 α) (hw : pm w) (hb : BD D G (aB α 1) RT' H1) (hA : ∀ q, A q → bA 11 (aB α 1) q) (hk : ∀ q : Nat, q < H.size → ¬ A q → H1[q]? = H[q]?) : DP D G α w R RT' RS kp sv n F len H1 := by
  have K := keepP hα (fun q hq => pA_b q (hA q hq)) (fun k h => by omega) hk
  obtain ⟨h0, h1, h2, h3, h4, h5⟩ := h
  exact ⟨h0.kept (K 0 (by omega) (by omega) h0.lt), h1.kp (by omega) K (fun k q1 q2 => by omega), hb, h3.kp (by omega) K (fun k q1 q2 => by omega), h4.kp hw K (by omega) (by omega) (fun k q1 q2 => by omega), h5.kp K (by omega) (by omega)⟩
theorem DP.snap {RS' : Nat → Int32} {A : Nat → Prop} (h : DP D G α w R RT RS kp sv n F len H) (hα : inj 115 α) (hw : pm w) (hb : BD D G (aB α 2) RS' H1) (hA : ∀ q, A q → bA 11 (aB α 2) q) (hk : ∀ q : Nat, q < H.size → ¬ A q → H1[q]? = H[q]?) : DP D G α w R RT RS' kp sv n F len H1 := by
  have K := keepP hα (fun q hq => pA_b q (hA q hq)) (fun k h => by omega) hk
  obtain ⟨h0, h1, h2, h3, h4, h5⟩ := h
  exact ⟨h0.kept (K 0 (by omega) (by omega) h0.lt), h1.kp (by omega) K (fun k q1 q2 => by omega), h2.kp (by omega) K (fun k q1 q2 => by omega), hb, h4.kp hw K (by omega) (by omega) (fun k q1 q2 => by omega), h5.kp K (by omega) (by omega)⟩
theorem DP.hist {w' : Nat → Nat} {sv' : Nat → Nat → Int32} {n' : Nat} {A : Nat → Prop} (h : DP D G α w R RT RS kp sv n F len H) (hα : inj 115 α) (hb : HI D G (hh α) (sB α) w' sv' n' H1) (hA : ∀ q, A q → hA (hh α) (sB α) q) (hk : ∀ q : Nat, q < H.size → ¬ A q → H1[q]? = H[q]?) : DP D G α w' R RT RS kp sv' n' F len H1 := by
  have K := keepP hα (fun q hq => pA_h q (hA q hq)) (fun k h => by omega) hk
  obtain ⟨h0, h1, h2, h3, h4, h5⟩ := h
  exact ⟨h0.kept (K 0 (by omega) (by omega) h0.lt), h1.kp (by omega) K (fun k q1 q2 => by omega), h2.kp (by omega) K (fun k q1 q2 => by omega), h3.kp (by omega) K (fun k q1 q2 => by omega), hb, h5.kp K (by omega) (by omega)⟩
theorem DP.text {F' : Nat → Int32} {len' : Nat} {A : Nat → Prop} (h : DP D G α w R RT RS kp sv n F len H) (hα : inj 115 α) (hw : pm w) (hb : TX D G (tx α) F' len' H1) (hA : ∀ q, A q → bA 2 (tx α) q) (hk : ∀ q : Nat, q < H.size → ¬ A q → H1[q]? = H[q]?) : DP D G α w R RT RS kp sv n F' len' H1 := by
  have K := keepP hα (fun q hq => pA_t q (hA q hq)) (fun k h => by omega) hk
  obtain ⟨h0, h1, h2, h3, h4, h5⟩ := h
  exact ⟨h0.kept (K 0 (by omega) (by omega) h0.lt), h1.kp (by omega) K (fun k q1 q2 => by omega), h2.kp (by omega) K (fun k q1 q2 => by omega), h3.kp (by omega) K (fun k q1 q2 => by omega), h4.kp hw K (by omega) (by omega) (fun k q1 q2 => by omega), hb⟩
theorem DP.obj {kp' : Int32} (h : DP D G α w R RT RS kp sv n F len H) (hα : inj 115 α) (hw : pm w) (hb : va_at D vwCl (α 0, .inr (5, oF α kp')) H1) (hk : ∀ q : Nat, q ≠ α 0 → H1[q]? = H[q]?) : DP D G α w R RT RS kp' sv n F len H1 := by
  have K := keepP (P := fun k => k = 0) (A := fun q => q = α 0) hα (fun q hq => ⟨0, rfl, hq⟩) (fun k h => by omega) (fun q _ hn => hk q hn)
  obtain ⟨h0, h1, h2, h3, h4, h5⟩ := h
  exact ⟨hb, h1.kp (by omega) K (fun k q1 q2 => by omega), h2.kp (by omega) K (fun k q1 q2 => by omega), h3.kp (by omega) K (fun k q1 q2 => by omega), h4.kp hw K (by omega) (by omega) (fun k q1 q2 => by omega), h5.kp K (by omega) (by omega)⟩
theorem DP.rest {R' : Nat → Int32} {n' : Nat} (h : DP D G α w R RT RS kp sv n F len H) (hα : inj 115 α) (hi : HI D G (hh α) (sB α) w sv n' H1) (hb : BD D G (aB α 0) R' H1) (hk : ∀ q : Nat, q < H.size → ¬ (q = hh α 0 ∨ bA 11 (aB α 0) q) → H1[q]? = H[q]?) : DP D G α w R' RT RS kp sv n' F len H1 := by
  have K := keepP hα pA_r (fun k h => by omega) hk
  obtain ⟨h0, h1, h2, h3, h4, h5⟩ := h
  exact ⟨h0.kept (K 0 (by omega) (by omega) h0.lt), hb, h2.kp (by omega) K (fun k q1 q2 => by omega), h3.kp (by omega) K (fun k q1 q2 => by omega), hi, h5.kp K (by omega) (by omega)⟩
end DPS
/-- the object as its callers know it -/
def DW (D : va_G) (G : Nat → ClassId) (α : Nat → Nat) (R RS : Nat → Int32) (kp : Int32) (sv : Nat → Nat → Int32) (n : Nat) (F : Nat → Int32) (len : Nat) (H : Heap) : Prop := ∃ w RT, pm w ∧ DP D G α w R RT RS kp sv n F len H
def ix (i : Int32) : Nat := i.toNatClampNeg
theorem ix_nI {j : Nat} (h : j < 2 ^ 31) : ix (nI j) = j := nI_clamp h
/-- the checks of the arguments, as numbers of the throws clause -/
def nS (i k : Int32) : Int32 := if i < 0 then 1 else if 3 ≤ i then 1 else k
def nF (i k : Int32) : Int32 := if i < 0 then 1 else if 4 ≤ i then 1 else k
def nR (v a b c k : Int32) : Int32 := if v < a then c else if b < v then c else k
theorem nS_bad {i k : Int32} (h : i < 0 ∨ 3 ≤ i) : nS i k = 1 := by
  unfold nS
  rcases h with h | h
  · rw [if_pos h]
  · split
    · rfl
    · rfl
theorem nF_bad {i k : Int32} (h : i < 0 ∨ 4 ≤ i) : nF i k = 1 := by
  unfold nF
  rcases h with h | h
  · rw [if_pos h]
  · split
    · rfl
    · rfl
theorem nR_bad {v a b c k : Int32} (h : v < a ∨ b < v) : nR v a b c k = c := by
  unfold nR
  rcases h with h | h
  · rw [if_pos h]
  · split
    · rfl
    · rfl
theorem nS_ok {j : Nat} {k : Int32} (h : j < 3) : nS (nI j) k = k := by
  unfold nS
  rw [if_neg (nI_pos (by omega)), if_neg (show ¬ (3 : Int32) ≤ nI j from nI_ge (b := 3) (by omega) (by omega))]
theorem nF_ok {j : Nat} {k : Int32} (h : j < 4) : nF (nI j) k = k := by
  unfold nF
  rw [if_neg (nI_pos (by omega)), if_neg (show ¬ (4 : Int32) ≤ nI j from nI_ge (b := 4) (by omega) (by omega))]
theorem nR_ok {v a b c k : Int32} (h : ¬ v < a ∧ ¬ b < v) : nR v a b c k = k := by
  unfold nR
  rw [if_neg h.1, if_neg h.2]
theorem in_of {i : Int32} {N : Nat} (hN : N < 2 ^ 31) (h0 : ¬ i < 0) (h1 : ¬ nI N ≤ i) : ∃ j : Nat, j < N ∧ i = nI j := by
  rcases pk_ix i hN with h | h | h
  · exact absurd h h0
  · exact absurd h h1
  · exact h
/-- what the object's methods may change -/
def A5 (α : Nat → Nat) : Nat → Prop := pA α (fun k => k < 104)
theorem A5_b {α : Nat → Nat} {j : Nat} (hj : j < 9) : ∀ q, bA 11 (aB α j) q → A5 α q := fun q h => by
  obtain ⟨k, hk, e⟩ := h
  exact ⟨5 + 11 * j + k, by omega, e⟩
theorem A5_h {α : Nat → Nat} : ∀ q, hA (hh α) (sB α) q → A5 α q := fun q h => by
  obtain ⟨k, hk, e⟩ := pA_h q h
  exact ⟨k, by omega, e⟩
theorem A5_t {α : Nat → Nat} : ∀ q, bA 2 (tx α) q → A5 α q := fun q h => by
  obtain ⟨k, hk, e⟩ := pA_t q h
  exact ⟨k, by omega, e⟩
theorem sB_b {α : Nat → Nat} (hα : inj 115 α) : ∀ j k i, j < 6 → k < 11 → i < 11 → sB α j k ≠ aB α 0 i := fun j k i hj hk hi => aB_ne hα (i := 3 + j) (j := 0) (by omega) (by omega) (by omega) k i hk hi
theorem hh_b {α : Nat → Nat} (hα : inj 115 α) : ∀ i k, i < 2 → k < 11 → hh α i ≠ aB α 0 k := fun i k hi hk e => by
  have := hα _ _ (by omega) (by omega) e
  omega
def cBuild (R : Nat → Int32) (i r d : Int32) : Int32 := nS i (nR r 100 500 2 (nR d 100 400 2 (if R (11 + 10 * ix i) = 0 then 0 else 3)))
def cSpeed (i v : Int32) : Int32 := nS i (nR v 4700 5300 2 0)
def cRun (R : Nat → Int32) (i : Int32) : Int32 := nS i (if R (11 + 10 * ix i) = 0 then 0 else 2)
def cHalt (R : Nat → Int32) (i : Int32) : Int32 := nS i (if R (11 + 10 * ix i) = 0 then 2 else if R (12 + 10 * ix i) = 0 then 0 else 2)
def cClose (R : Nat → Int32) (i : Int32) : Int32 := nS i (if rsn R (ix i) = 0 then 0 else 2)
def cOpen (R : Nat → Int32) (i : Int32) : Int32 := nS i (if R (12 + 10 * ix i) = 0 then 2 else 0)
def cLoad (i v : Int32) : Int32 := nF i (nR v 0 300 2 0)
def cFeed (i v : Int32) : Int32 := nF i (nR v 0 1 2 0)
def cPass (t : Int32) : Int32 := nR t 1 99 1 0
def cSet (i v : Int32) : Int32 := nF i (nR v (lst (ix i)) (mst (ix i)) 2 0)
def cApp (ch : Int32) (len : Nat) : Int32 := nR ch 33 126 1 (if len < 60 then 0 else 2)
def cBack (kp : Int32) : Int32 := if kp = 0 then 1 else 0
def cUndo (n : Nat) : Int32 := if n = 0 then 1 else 0
theorem pass_nI {t : Int32} (h : ¬ t < 1 ∧ ¬ 99 < t) : ∃ k : Nat, k ≤ 99 ∧ t = nI k := by
  obtain ⟨j, h1, h2⟩ := nI_of2 (x := t) (M := 99) (n := 99) (by decide) (fun q => h.1 (Int32.lt_trans q (by decide))) (Int32.not_lt.mp h.2)
  exact ⟨j, h1, h2⟩
theorem v0_of {v : Int32} (h : ¬ v < 0 ∧ ¬ 1 < v) (h1 : ¬ v = 1) : v = 0 := by
  obtain ⟨j, h2, rfl⟩ := nI_of2 (x := v) (M := 1) (n := 1) (by decide) h.1 (Int32.not_lt.mp h.2)
  rcases (show j = 0 ∨ j = 1 by omega) with rfl | rfl
  · rfl
  · exact absurd rfl h1
