/-! rows behind writes; what a tick does to a row -/
theorem dF_set {R : Nat → Int32} {i k : Nat} {x : Int32} (hk : k < 10) : (dF R i).set k (.int x) = dF (upd R (8 + k + 10 * i) x) i := by
  match k, hk with
  | 0, _ | 1, _ | 2, _ | 3, _ | 4, _ | 5, _ | 6, _ | 7, _ | 8, _ | 9, _ => simp [dF, upd]
theorem fF_set {R : Nat → Int32} {i k : Nat} {x : Int32} (hk : k < 3) : (fF R i).set k (.int x) = fF (upd R (38 + k + 3 * i) x) i := by
  match k, hk with
  | 0, _ | 1, _ | 2, _ => simp [fF, upd]
theorem upd_ne {R : Nat → Int32} {k j : Nat} {x : Int32} (h : j ≠ k) : upd R k x j = R j := by simp [upd, h]
theorem upd_eq {R : Nat → Int32} {k : Nat} {x : Int32} : upd R k x k = x := by simp [upd]
theorem BD.putD {D : va_G} {G : Nat → ClassId} {b : Nat → Nat} {R : Nat → Int32} {H H1 : Heap} {i k : Nat} {x : Int32} (hk : k < 10) (h : BD D G b R H) (hn : inj 11 b) (hi : i < 3) (ha : va_at D vwCl (b (4 + i), .inr (1, (dF R i).set k (.int x))) H1) (hq : ∀ q : Nat, q ≠ b (4 + i) → H1[q]? = H[q]?) : BD D G b (upd R (8 + k + 10 * i) x) H1 :=
  h.setD hn hi (by rw [← dF_set hk]; exact ha) (fun q _ hne => hq q hne) (fun j _ hj => upd_ne (by omega))
theorem BD.putF {D : va_G} {G : Nat → ClassId} {b : Nat → Nat} {R : Nat → Int32} {H H1 : Heap} {i k : Nat} {x : Int32} (hk : k < 3) (h : BD D G b R H) (hn : inj 11 b) (hi : i < 4) (ha : va_at D vwCl (b (7 + i), .inr (2, (fF R i).set k (.int x))) H1) (hq : ∀ q : Nat, q ≠ b (7 + i) → H1[q]? = H[q]?) : BD D G b (upd R (38 + k + 3 * i) x) H1 :=
  h.setF hn hi (by rw [← fF_set hk]; exact ha) (fun q _ hne => hq q hne) (fun j _ _ hj => upd_ne (by omega))
theorem BD.putT {D : va_G} {G : Nat → ClassId} {b : Nat → Nat} {R : Nat → Int32} {H H1 : Heap} {x : Int32} (h : BD D G b R H) (hn : inj 11 b) (ha : va_at D vwCl (b 0, .inr (0, (bF b R).set 3 (.int x))) H1) (hq : ∀ q : Nat, q ≠ b 0 → H1[q]? = H[q]?) : BD D G b (upd R 4 x) H1 :=
  h.setO hn ha (fun q _ hne => hq q hne) (fun j _ h4 _ => upd_ne h4)
theorem BD.putE {D : va_G} {G : Nat → ClassId} {b : Nat → Nat} {R : Nat → Int32} {H H1 : Heap} {x : Int32} (h : BD D G b R H) (hn : inj 11 b) (ha : va_at D vwCl (b 0, .inr (0, (bF b R).set 4 (.int x))) H1) (hq : ∀ q : Nat, q ≠ b 0 → H1[q]? = H[q]?) : BD D G b (upd R 7 x) H1 :=
  h.setO hn ha (fun q _ hne => hq q hne) (fun j _ _ h7 => upd_ne h7)
theorem BD.putS {D : va_G} {G : Nat → ClassId} {b : Nat → Nat} {R : Nat → Int32} {H H1 : Heap} {k : Nat} {x : Int32} (hk : k < 4) (h : BD D G b R H) (hn : inj 11 b) (ha : va_at D vwCl (b 3, .inl (G 0, 4, .inl (upd R k x))) H1) (hq : ∀ q : Nat, q ≠ b 3 → H1[q]? = H[q]?) : BD D G b (upd R k x) H1 :=
  h.setS hn ha (fun q _ hne => hq q hne) (fun j _ hj => upd_ne (by omega))
theorem BD.up5 {D : va_G} {G : Nat → ClassId} {b : Nat → Nat} {R : Nat → Int32} {H : Heap} {x : Int32} (h : BD D G b R H) : BD D G b (upd R 5 x) H := h.congr (fun k _ h5 _ => (upd_ne h5).symm)
theorem BD.up6 {D : va_G} {G : Nat → ClassId} {b : Nat → Nat} {R : Nat → Int32} {H : Heap} {x : Int32} (h : BD D G b R H) : BD D G b (upd R 6 x) H := h.congr (fun k _ _ h6 => (upd_ne h6).symm)
/-- a board elsewhere stays -/
theorem BD.off {D : va_G} {G : Nat → ClassId} {b : Nat → Nat} {R : Nat → Int32} {H H1 : Heap} {A : Nat → Prop} (h : BD D G b R H) (hk : ∀ q : Nat, q < H.size → ¬ A q → H1[q]? = H[q]?) (hd : ∀ k, k < 11 → ¬ A (b k)) : BD D G b R H1 := h.kept (fun k hk1 => hk _ (h.lt k hk1) (hd k hk1))
theorem BD.off1 {D : va_G} {G : Nat → ClassId} {b : Nat → Nat} {R : Nat → Int32} {H H1 : Heap} {a : Nat} (h : BD D G b R H) (hk : ∀ q : Nat, q ≠ a → H1[q]? = H[q]?) (hd : ∀ k, k < 11 → b k ≠ a) : BD D G b R H1 := h.kept (fun k hk1 => hk _ (hd k hk1))
def trd (R : Nat → Int32) (i : Nat) : Nat → Int32 := upd (rst (upd R (12 + 10 * i) 0) i) (17 + 10 * i) (R (17 + 10 * i) + 1)
def tr1 (R : Nat → Int32) (i : Nat) : Nat → Int32 := if R 0 ≤ R (14 + 10 * i) then trd R i else if R (15 + 10 * i) < R 1 then R else trd R i
def trc (R : Nat → Int32) (i : Nat) : Int32 := if R 0 ≤ R (14 + 10 * i) then 1 else if R (15 + 10 * i) < R 1 then 0 else 1
def trs (R : Nat → Int32) : Nat → Nat → Int32
  | 0 => R
  | k + 1 => tr1 (trs R k) k
def trm (R : Nat → Int32) : Nat → Int32
  | 0 => 0
  | k + 1 => trm R k + trc (trs R k) k
/-- the last feeder that can be shed, and one more; 0: none -/
def shk (R : Nat → Int32) : Nat → Nat
  | 0 => 0
  | k + 1 => if R (39 + 3 * k) = 0 then shk R k else if R (38 + 3 * k) ≤ 0 then shk R k else k + 1
def sh1 (R : Nat → Int32) (k : Nat) : Nat → Int32 := upd (upd R (39 + 3 * k) 0) (40 + 3 * k) (R (40 + 3 * k) + 1)
def shd (R : Nat → Int32) : Nat → Int32 := if shk R 4 = 0 then R else upd (sh1 R (shk R 4 - 1)) 6 (R 6 + 1)
def tA (R : Nat → Int32) : Nat → Int32 := upd R 7 (R 7 + (ld R - lk R (fq R)))
def tbs (R : Nat → Int32) : Nat → Nat → Int32
  | 0 => tA R
  | k + 1 => dtk (tbs R k) k (pw R k (fq R)) (fq R)
def tC (R : Nat → Int32) : Nat → Int32 := if lk R (fq R) ≤ 0 then tbs R 3 else shd (tbs R 3)
def tD (R : Nat → Int32) : Nat → Int32 := upd (tC R) 4 (tC R 4 + 1)
/-- the row behind a tick, and how many breakers trip -/
def tk (R : Nat → Int32) : Nat → Int32 := upd (trs (tD R) 3) 5 (R 5 + trm (tD R) 3)
def tkn (R : Nat → Int32) : Int32 := trm (tD R) 3
/-- what frequency and powers are found from -/
def pj (R R' : Nat → Int32) : Prop := (∀ i, i < 3 → R (8 + 10 * i) = R' (8 + 10 * i) ∧ R (9 + 10 * i) = R' (9 + 10 * i) ∧ R (10 + 10 * i) = R' (10 + 10 * i) ∧ R (12 + 10 * i) = R' (12 + 10 * i)) ∧ ∀ i, i < 4 → R (38 + 3 * i) = R' (38 + 3 * i) ∧ R (39 + 3 * i) = R' (39 + 3 * i)
theorem pj.rf {R : Nat → Int32} : pj R R := ⟨fun _ _ => ⟨rfl, rfl, rfl, rfl⟩, fun _ _ => ⟨rfl, rfl⟩⟩
theorem pj.symm {R R' : Nat → Int32} (h : pj R R') : pj R' R := ⟨fun i hi => ⟨(h.1 i hi).1.symm, (h.1 i hi).2.1.symm, (h.1 i hi).2.2.1.symm, (h.1 i hi).2.2.2.symm⟩, fun i hi => ⟨(h.2 i hi).1.symm, (h.2 i hi).2.symm⟩⟩
theorem pj.trans {R R' R2 : Nat → Int32} (h : pj R R') (g : pj R' R2) : pj R R2 := ⟨fun i hi => ⟨(h.1 i hi).1.trans (g.1 i hi).1, (h.1 i hi).2.1.trans (g.1 i hi).2.1, (h.1 i hi).2.2.1.trans (g.1 i hi).2.2.1, (h.1 i hi).2.2.2.trans (g.1 i hi).2.2.2⟩, fun i hi => ⟨(h.2 i hi).1.trans (g.2 i hi).1, (h.2 i hi).2.trans (g.2 i hi).2⟩⟩
theorem gv_c {R R' : Nat → Int32} (h : pj R R') {i : Nat} (hi : i < 3) (f : Int32) : gv R i f = gv R' i f := by
  obtain ⟨h1, h2, h3, h4⟩ := h.1 i hi
  simp only [gv, h1, h2, h3, h4]
theorem alv_c {R R' : Nat → Int32} (h : pj R R') : alv R = alv R' := by
  have h0 : R 12 = R' 12 := (h.1 0 (by omega)).2.2.2
  have h1 : R 22 = R' 22 := (h.1 1 (by omega)).2.2.2
  have h2 : R 32 = R' 32 := (h.1 2 (by omega)).2.2.2
  simp only [alv, h0, h1, h2]
theorem lsum_c {R R' : Nat → Int32} (h : pj R R') : ∀ k, k ≤ 4 → lsum R k = lsum R' k
  | 0, _ => rfl
  | k + 1, hk => by
    obtain ⟨h1, h2⟩ := h.2 k (by omega)
    simp only [lsum, h1, h2, lsum_c h k (by omega)]
theorem ld_c {R R' : Nat → Int32} (h : pj R R') : ld R = ld R' := by simp only [ld, alv_c h, lsum_c h 4 (by omega)]
theorem tsum_c {R R' : Nat → Int32} (h : pj R R') (f : Int32) : ∀ k, k ≤ 3 → tsum R f k = tsum R' f k
  | 0, _ => rfl
  | k + 1, hk => by simp only [tsum, gv_c h (show k < 3 by omega) f, tsum_c h f k (by omega)]
theorem tot_c {R R' : Nat → Int32} (h : pj R R') (f : Int32) : tot R f = tot R' f := tsum_c h f 3 (by omega)
theorem fok_c {R R' : Nat → Int32} (h : pj R R') : fok R = fok R' := by funext k; simp only [fok, ld_c h, tot_c h]
theorem fq_c {R R' : Nat → Int32} (h : pj R R') : fq R = fq R' := by simp only [fq, alv_c h, fok_c h]
theorem lw_c {R R' : Nat → Int32} (h : pj R R') : lw R = lw R' := by
  have h0 : R 12 = R' 12 := (h.1 0 (by omega)).2.2.2
  have h1 : R 22 = R' 22 := (h.1 1 (by omega)).2.2.2
  have h2 : R 32 = R' 32 := (h.1 2 (by omega)).2.2.2
  simp only [lw, h0, h1, h2]
theorem pw_c {R R' : Nat → Int32} (h : pj R R') {i : Nat} (hi : i < 3) (f : Int32) : pw R i f = pw R' i f := by simp only [pw, gv_c h hi, lw_c h, tot_c h, ld_c h]
theorem lk_c {R R' : Nat → Int32} (h : pj R R') (f : Int32) : lk R f = lk R' f := by simp only [lk, tot_c h, ld_c h]
/-- which numbers may change without a change of frequency and powers -/
theorem pj_of {R R' : Nat → Int32} (h : ∀ k, k < 50 → (k = 8 ∨ k = 9 ∨ k = 10 ∨ k = 12 ∨ k = 18 ∨ k = 19 ∨ k = 20 ∨ k = 22 ∨ k = 28 ∨ k = 29 ∨ k = 30 ∨ k = 32 ∨ k = 38 ∨ k = 39 ∨ k = 41 ∨ k = 42 ∨ k = 44 ∨ k = 45 ∨ k = 47 ∨ k = 48) → R k = R' k) : pj R R' := by
  refine ⟨fun i hi => ⟨h _ (by omega) (by omega), h _ (by omega) (by omega), h _ (by omega) (by omega), h _ (by omega) (by omega)⟩, fun i hi => ⟨h _ (by omega) (by omega), h _ (by omega) (by omega)⟩⟩
theorem dtk_at {R : Nat → Int32} {i : Nat} {w f : Int32} {k : Nat} (h : k ≠ 16 + 10 * i ∧ k ≠ 13 + 10 * i ∧ k ≠ 14 + 10 * i ∧ k ≠ 15 + 10 * i) : dtk R i w f k = R k := by
  obtain ⟨h1, h2, h3, h4⟩ := h
  unfold dtk
  split
  · split
    · rw [upd_ne h1]
    · split
      · rw [upd_ne h1]
      · rw [upd_ne h2, upd_ne h1]
  · rw [upd_ne h4, upd_ne h3, upd_ne h1]
theorem tbs_at {R : Nat → Int32} : ∀ (n : Nat) {k : Nat}, n ≤ 3 → k ≠ 7 → (∀ i, i < 3 → k ≠ 16 + 10 * i ∧ k ≠ 13 + 10 * i ∧ k ≠ 14 + 10 * i ∧ k ≠ 15 + 10 * i) → tbs R n k = R k
  | 0, k, _, h7, _ => upd_ne h7
  | n + 1, k, hn, h7, h => by
    rw [tbs, dtk_at (h n (by omega))]
    exact tbs_at n (by omega) h7 h
theorem tbs_pj {R : Nat → Int32} {n : Nat} (hn : n ≤ 3) : pj (tbs R n) R := pj_of (fun k hk h => tbs_at n hn (by omega) (fun i hi => by omega))
theorem pw_tbs {R : Nat → Int32} {n i : Nat} (hn : n ≤ 3) (hi : i < 3) (f : Int32) : pw (tbs R n) i f = pw R i f := pw_c (tbs_pj hn) hi f
/-- set by set, then feeder by feeder, then the rest of a row comes over -/
def cp1 (R R2 : Nat → Int32) (k : Nat) : Nat → Int32 := fun j => if 8 ≤ j ∧ j < 8 + 10 * k then R2 j else R j
def cp2 (R R2 : Nat → Int32) (k : Nat) : Nat → Int32 := fun j => if 8 ≤ j ∧ j < 38 + 3 * k then R2 j else R j
def cp3 (R R2 : Nat → Int32) (k : Nat) : Nat → Int32 := fun j => if 8 ≤ j ∨ j < k then R2 j else R j
theorem dF_cong {R R' : Nat → Int32} {i : Nat} (h : ∀ w, w < 10 → R (8 + w + 10 * i) = R' (8 + w + 10 * i)) : dF R i = dF R' i := by
  have h0 := h 0 (by omega); have h1 := h 1 (by omega); have h2 := h 2 (by omega); have h3 := h 3 (by omega); have h4 := h 4 (by omega); have h5 := h 5 (by omega); have h6 := h 6 (by omega); have h7 := h 7 (by omega); have h8 := h 8 (by omega); have h9 := h 9 (by omega)
  simp only [dF, Nat.reduceAdd, Nat.add_zero] at *
  rw [h0, h1, h2, h3, h4, h5, h6, h7, h8, h9]
theorem fF_cong {R R' : Nat → Int32} {i : Nat} (h : ∀ w, w < 3 → R (38 + w + 3 * i) = R' (38 + w + 3 * i)) : fF R i = fF R' i := by
  have h0 := h 0 (by omega); have h1 := h 1 (by omega); have h2 := h 2 (by omega)
  simp only [fF, Nat.reduceAdd, Nat.add_zero] at *
  rw [h0, h1, h2]
theorem BD.cpD {D : va_G} {G : Nat → ClassId} {b : Nat → Nat} {R R2 : Nat → Int32} {H H1 : Heap} {i : Nat} (h : BD D G b (cp1 R R2 i) H) (hn : inj 11 b) (hi : i < 3) (ha : va_at D vwCl (b (4 + i), .inr (1, dF R2 i)) H1) (hq : ∀ q : Nat, q < H.size → q ≠ b (4 + i) → H1[q]? = H[q]?) : BD D G b (cp1 R R2 (i + 1)) H1 :=
  h.setD hn hi (by rw [show dF (cp1 R R2 (i + 1)) i = dF R2 i from dF_cong (fun w hw => by rw [cp1, if_pos (by omega)])]; exact ha) hq (fun k _ hk => by
    by_cases q : 8 ≤ k ∧ k < 8 + 10 * i
    · rw [cp1, cp1, if_pos (by omega), if_pos q]
    · rw [cp1, cp1, if_neg (by omega), if_neg q])
theorem BD.cpF {D : va_G} {G : Nat → ClassId} {b : Nat → Nat} {R R2 : Nat → Int32} {H H1 : Heap} {i : Nat} (h : BD D G b (cp2 R R2 i) H) (hn : inj 11 b) (hi : i < 4) (ha : va_at D vwCl (b (7 + i), .inr (2, fF R2 i)) H1) (hq : ∀ q : Nat, q < H.size → q ≠ b (7 + i) → H1[q]? = H[q]?) : BD D G b (cp2 R R2 (i + 1)) H1 :=
  h.setF hn hi (by rw [show fF (cp2 R R2 (i + 1)) i = fF R2 i from fF_cong (fun w hw => by rw [cp2, if_pos (by omega)])]; exact ha) hq (fun k _ _ hk => by
    by_cases q : 8 ≤ k ∧ k < 38 + 3 * i
    · rw [cp2, cp2, if_pos (by omega), if_pos q]
    · rw [cp2, cp2, if_neg (by omega), if_neg q])
theorem BD.cpS0 {D : va_G} {G : Nat → ClassId} {b : Nat → Nat} {R R2 : Nat → Int32} {H : Heap} (h : BD D G b (cp2 R R2 4) H) : BD D G b (cp3 R R2 0) H := h.congr (fun k hk _ _ => by
  by_cases q : 8 ≤ k
  · rw [cp2, cp3, if_pos (by omega), if_pos (by omega)]
  · rw [cp2, cp3, if_neg (by omega), if_neg (by omega)])
theorem BD.cpS {D : va_G} {G : Nat → ClassId} {b : Nat → Nat} {R R2 : Nat → Int32} {H H1 : Heap} {i : Nat} (h : BD D G b (cp3 R R2 i) H) (hn : inj 11 b) (hi : i < 4) (ha : va_at D vwCl (b 3, .inl (G 0, 4, .inl (upd (cp3 R R2 i) i (R2 i)))) H1) (hq : ∀ q : Nat, q ≠ b 3 → H1[q]? = H[q]?) : BD D G b (cp3 R R2 (i + 1)) H1 :=
  (h.putS hi hn ha hq).congr (fun k hk _ _ => by
    by_cases e : k = i
    · subst e; rw [upd_eq, cp3, if_pos (by omega)]
    · rw [upd_ne e]
      by_cases q : 8 ≤ k ∨ k < i
      · rw [cp3, cp3, if_pos q, if_pos (by omega)]
      · rw [cp3, cp3, if_neg q, if_neg (by omega)])
theorem BD.cpE {D : va_G} {G : Nat → ClassId} {b : Nat → Nat} {R R2 : Nat → Int32} {H : Heap} (h : BD D G b (upd (upd (cp3 R R2 4) 4 (R2 4)) 7 (R2 7)) H) : BD D G b R2 H := h.congr (fun k hk h5 h6 => by
  by_cases e7 : k = 7
  · subst e7; rw [upd_eq]
  · rw [upd_ne e7]
    by_cases e4 : k = 4
    · subst e4; rw [upd_eq]
    · rw [upd_ne e4, cp3, if_pos (by omega)])
def bz (R : Nat → Int32) : Prop := (∀ i, i < 3 → (R (11 + 10 * i) = 0 ∨ R (11 + 10 * i) = 1) ∧ (R (12 + 10 * i) = 0 ∨ R (12 + 10 * i) = 1)) ∧ ∀ i, i < 4 → R (39 + 3 * i) = 0 ∨ R (39 + 3 * i) = 1
def mono (R : Nat → Int32) : Prop := ∀ j k, j ≤ k → k ≤ 600 → fok R k = true → fok R j = true
theorem mono_c {R R' : Nat → Int32} (h : pj R R') (hm : mono R) : mono R' := by
  unfold mono
  rw [← fok_c h]
  exact hm
def pt (R : Nat → Int32) : Nat → Nat → Int32
  | 0 => R
  | k + 1 => tk (pt R k)
def ptn (R : Nat → Int32) : Nat → Int32
  | 0 => 0
  | k + 1 => ptn R k + tkn (pt R k)
theorem rst_at {R : Nat → Int32} {i k : Nat} (h : k ≠ 13 + 10 * i ∧ k ≠ 14 + 10 * i ∧ k ≠ 15 + 10 * i) : rst R i k = R k := by
  unfold rst
  rw [upd_ne h.2.2, upd_ne h.2.1, upd_ne h.1]
theorem rst17 {R : Nat → Int32} {i : Nat} : rst (upd R (12 + 10 * i) 0) i (17 + 10 * i) = R (17 + 10 * i) := by
  rw [rst_at (by omega), upd_ne (by omega)]
theorem BD.rstD {D : va_G} {G : Nat → ClassId} {b : Nat → Nat} {R : Nat → Int32} {H H1 : Heap} {i k : Nat} {x : Int32} (hk : k = 11 ∨ k = 12) (h : BD D G b R H) (hn : inj 11 b) (hi : i < 3) (ha : va_at D vwCl (b (4 + i), .inr (1, dF (rst (upd R (k + 10 * i) x) i) i)) H1) (hq : ∀ q : Nat, q < H.size → q ≠ b (4 + i) → H1[q]? = H[q]?) : BD D G b (rst (upd R (k + 10 * i) x) i) H1 :=
  h.setD hn hi ha hq (fun j _ hj => by rw [rst_at (by omega), upd_ne (by omega)])
theorem BD.dtkD {D : va_G} {G : Nat → ClassId} {b : Nat → Nat} {R : Nat → Int32} {H H1 : Heap} {i : Nat} {w f : Int32} (h : BD D G b R H) (hn : inj 11 b) (hi : i < 3) (ha : va_at D vwCl (b (4 + i), .inr (1, dF (dtk R i w f) i)) H1) (hq : ∀ q : Nat, q < H.size → q ≠ b (4 + i) → H1[q]? = H[q]?) : BD D G b (dtk R i w f) H1 :=
  h.setD hn hi ha hq (fun j _ hj => dtk_at (by omega))
theorem shk_le (R : Nat → Int32) : ∀ n, shk R n ≤ n
  | 0 => Nat.le_refl _
  | n + 1 => by
    have := shk_le R n
    unfold shk
    split
    · omega
    · split
      · omega
      · omega
