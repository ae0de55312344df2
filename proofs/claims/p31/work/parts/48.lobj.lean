/-! the object beside the law's rows: cells 0 to 103 the object, 104 to 107 d, f, n, p, 108 to 110 the second d, f, n -/
def lm (α : Nat → Nat) : Nat → Nat := fun k => α (104 + k)
def ln (α : Nat → Nat) : Nat → Nat := fun k => if k < 3 then α (108 + k) else α 107
def AT (α : Nat → Nat) : Nat → Prop := pA α (fun k => k < 108)
def AU (α : Nat → Nat) : Nat → Prop := pA α (fun k => k < 111)
section LOB
variable {D : va_G} {G : Nat → ClassId} {α : Nat → Nat} {R R2 P P2 : Nat → Int32} {H H1 : Heap}
theorem lm_inj (hα : inj 115 α) : inj 4 (lm α) := fun i j hi hj e => by
  have := hα _ _ (by omega) (by omega) e
  omega
theorem ln_at {k : Nat} (hk : k < 4) : ∃ q, 107 ≤ q ∧ q < 111 ∧ ln α k = α q ∧ (k = 3 ↔ q = 107) ∧ (k < 3 → q = 108 + k) := by
  unfold ln
  split
  · exact ⟨108 + k, by omega, by omega, rfl, by omega, fun _ => rfl⟩
  · exact ⟨107, by omega, by omega, rfl, by omega, fun h => by omega⟩
theorem ln_inj (hα : inj 115 α) : inj 4 (ln α) := fun i j hi hj e => by
  obtain ⟨q, h1, h2, h3, h4, h5⟩ := ln_at (α := α) hi
  obtain ⟨r, g1, g2, g3, g4, g5⟩ := ln_at (α := α) hj
  have := hα _ _ (by omega) (by omega) (h3.symm.trans (e.trans g3))
  omega
theorem A5_T : ∀ q, A5 α q → AT α q := fun q h => by
  obtain ⟨k, hk, e⟩ := h
  exact ⟨k, by omega, e⟩
theorem lm_T : ∀ q, bA 4 (lm α) q → AT α q := fun q h => by
  obtain ⟨k, hk, e⟩ := h
  exact ⟨104 + k, by omega, e⟩
theorem T_U : ∀ q, AT α q → AU α q := fun q h => by
  obtain ⟨k, hk, e⟩ := h
  exact ⟨k, by omega, e⟩
theorem ln_U : ∀ q, bA 4 (ln α) q → AU α q := fun q h => by
  obtain ⟨k, hk, e⟩ := h
  obtain ⟨r, g1, g2, g3, -⟩ := ln_at (α := α) hk
  exact ⟨r, by omega, e.trans g3⟩
theorem lm_5 (hα : inj 115 α) {k : Nat} (hk : k < 4) : ¬ A5 α (lm α k) := by
  rintro ⟨q, hq, e⟩
  have := hα _ _ (by omega) (by omega) e
  omega
theorem ln_5 (hα : inj 115 α) {k : Nat} (hk : k < 4) : ¬ A5 α (ln α k) := by
  rintro ⟨q, hq, e⟩
  obtain ⟨r, g1, g2, g3, -⟩ := ln_at (α := α) hk
  have := hα _ _ (by omega) (by omega) (g3.symm.trans e)
  omega
theorem LB.o5 (h : LB D G (lm α) R P H) (hα : inj 115 α) (hk : ∀ q : Nat, q < H.size → ¬ A5 α q → H1[q]? = H[q]?) : LB D G (lm α) R P H1 := h.off hk (fun _ h => lm_5 hα h)
theorem LB.n5 (h : LB D G (ln α) R P H) (hα : inj 115 α) (hk : ∀ q : Nat, q < H.size → ¬ A5 α q → H1[q]? = H[q]?) : LB D G (ln α) R P H1 := h.off hk (fun _ h => ln_5 hα h)
theorem OB.km (h : OB D G α R H) (hα : inj 115 α) (hk : ∀ q : Nat, q < H.size → ¬ bA 4 (lm α) q → H1[q]? = H[q]?) : OB D G α R H1 := h.all (fun k hk9 hlt => hk _ hlt (by
  rintro ⟨i, hi, e⟩
  have := hα _ _ (by omega) (by omega) e
  omega))
theorem OB.kn (h : OB D G α R H) (hα : inj 115 α) (hk : ∀ q : Nat, q < H.size → ¬ bA 4 (ln α) q → H1[q]? = H[q]?) : OB D G α R H1 := h.all (fun k hk9 hlt => hk _ hlt (by
  rintro ⟨i, hi, e⟩
  obtain ⟨r, g1, g2, g3, -⟩ := ln_at (α := α) hi
  have := hα _ _ (by omega) (by omega) (e.trans g3)
  omega))
theorem OB.ad {i : Nat} (h : OB D G α R H) (hα : inj 115 α) (hi : i < 4) (hk : ∀ q : Nat, q ≠ lm α i → H1[q]? = H[q]?) : OB D G α R H1 := h.all (fun k hk9 _ => hk _ (fun e => by
  have := hα _ _ (by omega) (by omega) e
  omega))
/-- the shared p: behind a call on the second rows, the first ones have the new p -/
theorem LB.mix (h : LB D G (lm α) R P H) (hα : inj 115 α) (h2 : LB D G (ln α) R2 P2 H1) (hk : ∀ q : Nat, q < H.size → ¬ bA 4 (ln α) q → H1[q]? = H[q]?) : LB D G (lm α) R P2 H1 := by
  have kp : ∀ k, k < 3 → H1[lm α k]? = H[lm α k]? := fun k hk3 => hk _ (h.lt k (by omega)) (by
    rintro ⟨i, hi, e⟩
    obtain ⟨r, g1, g2, g3, -⟩ := ln_at (α := α) hi
    have := hα _ _ (by omega) (by omega) (e.trans g3)
    omega)
  exact ⟨h.1.kept (kp 0 (by omega)), h.2.1.kept (kp 1 (by omega)), h.2.2.1.kept (kp 2 (by omega)), h2.2.2.2⟩
theorem LB.mix2 (h : LB D G (ln α) R P H) (hα : inj 115 α) (h2 : LB D G (lm α) R2 P2 H1) (hk : ∀ q : Nat, q < H.size → ¬ bA 4 (lm α) q → H1[q]? = H[q]?) : LB D G (ln α) R P2 H1 := by
  have kp : ∀ k, k < 3 → H1[ln α k]? = H[ln α k]? := fun k hk3 => hk _ (h.lt k (by omega)) (by
    rintro ⟨i, hi, e⟩
    obtain ⟨r, g1, g2, g3, -, g5⟩ := ln_at (α := α) (k := k) (by omega)
    have h5 := g5 hk3
    have := hα _ _ (by omega) (by omega) (g3.symm.trans e)
    omega)
  exact ⟨h.1.kept (kp 0 (by omega)), h.2.1.kept (kp 1 (by omega)), h.2.2.1.kept (kp 2 (by omega)), h2.2.2.2⟩
theorem LB.ad2 {i : Nat} (h : LB D G (ln α) R P H) (hα : inj 115 α) (hi : i < 3) (hk : ∀ q : Nat, q ≠ lm α i → H1[q]? = H[q]?) : LB D G (ln α) R P H1 := h.kept (fun k hk4 => hk _ (fun e => by
  obtain ⟨r, g1, g2, g3, -⟩ := ln_at (α := α) hk4
  have := hα _ _ (by omega) (by omega) (g3.symm.trans e)
  omega))
/-- three copies later the second rows are the first -/
theorem ln_ne {k i : Nat} (hα : inj 115 α) (hi : i < 3) (hk : k < 4) : lm α k ≠ ln α i := fun e => by
  obtain ⟨r, g1, g2, g3, g4, -⟩ := ln_at (α := α) (k := i) (by omega)
  have := hα _ _ (by omega) (by omega) (e.trans g3)
  omega
theorem LB.cpk {i : Nat} (h : LB D G (lm α) R P H) (hα : inj 115 α) (hi : i < 3) (hk : ∀ q : Nat, q < H.size → ¬ q = ln α i → H1[q]? = H[q]?) : LB D G (lm α) R P H1 := h.kept (fun k hk4 => hk _ (h.lt k hk4) (ln_ne hα hi hk4))
theorem OB.cpk {i : Nat} (h : OB D G α R H) (hα : inj 115 α) (hi : i < 3) (hk : ∀ q : Nat, q < H.size → ¬ q = ln α i → H1[q]? = H[q]?) : OB D G α R H1 := h.all (fun k hk9 hlt => hk _ hlt (fun e => by
  obtain ⟨r, g1, g2, g3, -⟩ := ln_at (α := α) (k := i) (by omega)
  have := hα _ _ (by omega) (by omega) (e.trans g3)
  omega))
theorem LB.cpn {i : Nat} (h : LB D G (ln α) R P H) (hα : inj 115 α) (hi : i < 3) (hk : ∀ q : Nat, q < H.size → ¬ q = ln α i → H1[q]? = H[q]?) : ∀ k, k < 4 → k ≠ i → H1[ln α k]? = H[ln α k]? := fun k hk4 hne => hk _ (h.lt k hk4) (fun e => hne (ln_inj hα k i hk4 (by omega) e))
theorem ob_recv {s : State} {tys : List (ClassId × FieldType)} (hK : va_K D vwCl tys s) (h : OB D G α R H) : ∃ cell : Cell, H[α 0]? = some cell ∧ cell.vm.isStatics = false ∧ s.vm.findClass RX5 = some cell.cls := by
  obtain ⟨RS, kp, sv, n, F, len, -, -, w, RT, -, hD⟩ := h
  exact dp_recv hK hD.1 rfl
end LOB
/-! what the looks tell is what the law has -/
theorem ord_self {s : Bool} {c : Nat} {q : Int} : FP.Core.order (.fin s c q) (.fin s c q) = some .eq := by
  show some (compareOfLessAndEq _ _) = _
  unfold compareOfLessAndEq
  rw [if_neg (Int.lt_irrefl _), if_pos rfl]
theorem okD_c {x : UInt64} (h : okD x) : Op.cmpValue (FP.dcmp x x) .l = 0 := by
  have e : FP.dcmp x x = some .eq := by
    rcases h with rfl | ⟨e, t, h1, h2, ht, rfl⟩
    · decide +kernel
    · show FP.Core.order _ _ = _
      rw [dE_dec h1 h2 ht]
      exact ord_self
  rw [e]; rfl
theorem okF_c {x : UInt32} (h : okF x) : Op.cmpValue (FP.fcmp x x) .l = 0 := by
  have e : FP.fcmp x x = some .eq := by
    rcases h with rfl | ⟨e, t, h1, h2, ht, rfl⟩
    · decide +kernel
    · show FP.Core.order _ _ = _
      rw [fE_dec h1 h2 ht]
      exact ord_self
  rw [e]; rfl

theorem one_z {x : Int32} (h : x = 0 ∨ x = 1) : (if x = 0 then (0 : Int32) else 1) = x := by rcases h with rfl | rfl <;> rfl
theorem tset_w {R : Nat → Int32} {i w : Nat} (hb : bz R) (hi : i < 3) (hw : w < 5) : tset R i (nI w) = R (8 + w + 10 * i) := by
  rcases (show w = 0 ∨ w = 1 ∨ w = 2 ∨ w = 3 ∨ w = 4 by omega) with rfl | rfl | rfl | rfl | rfl
  · rfl
  · rfl
  · rfl
  · show (if R (11 + 10 * i) = 0 then (0 : Int32) else 1) = _
    exact one_z (hb.1 i hi).1
  · show (if R (12 + 10 * i) = 0 then (0 : Int32) else 1) = _
    exact one_z (hb.1 i hi).2
theorem tset_5 {R : Nat → Int32} {i : Nat} (hi : i < 3) : tset R i 5 = (pwv R) i := (pwv_i hi).symm
theorem tset_7 {R : Nat → Int32} {i : Nat} (hp : ph R) (hi : i < 3) : tset R i 7 = lmp (R (13 + 10 * i)) := by
  obtain ⟨a, ha, e⟩ := hp i hi
  show lam (R (13 + 10 * i)) = _
  rw [e, lmp_l ha]
theorem tc_4 {R : Nat → Int32} : tcnt R 0 (nI 4) = (pwv R) 0 + (pwv R) 1 + (pwv R) 2 := by
  rw [pwv_i (by decide), pwv_i (by decide), pwv_i (by decide), psum3]; rfl
theorem tc_45 {R : Nat → Int32} (hg : gd R) : tcnt R 0 (nI 4) + tcnt R 0 (nI 5) = ld R := by
  show psum R (fq R) 3 + lk R (fq R) = ld R
  rw [← psum3, psum_all hg, Int32.sub_add_cancel]
theorem tc_5 {R : Nat → Int32} : tcnt R 0 (nI 5) = (pwv R) 3 := pwv_3.symm
theorem tc_6 {R : Nat → Int32} (hb : bz R) : tcnt R 0 (nI 6) = R (11 + 10 * 0) + R (11 + 10 * 1) + R (11 + 10 * 2) := (sm3_o (v := 11) (fun i hi => (hb.1 i hi).1)).symm
theorem tc_7 {R : Nat → Int32} (hb : bz R) : tcnt R 0 (nI 7) = R (12 + 10 * 0) + R (12 + 10 * 1) + R (12 + 10 * 2) := (sm3_o (v := 12) (fun i hi => (hb.1 i hi).2)).symm
theorem tc_8 {R : Nat → Int32} (hg : gd R) : tcnt R 0 (nI 8) = R 5 := hg.2.2.2.1.symm
theorem tc_9 {R : Nat → Int32} (hg : gd R) : tcnt R 0 (nI 9) = R 6 := hg.2.2.2.2.symm
theorem tf_1 {R : Nat → Int32} {k : Nat} (hb : bz R) (hk : k < 4) : tfee R k 1 = R (39 + 3 * k) := one_z (hb.2 k hk)
theorem ls_e {R : Nat → Int32} {x : Int32} (h : ¬ x = 0) (hx : x = rat R 3) : FP.ddiv (FP.i2d (ld R)) (FP.i2d x) = ldsh R := by
  subst hx
  rw [ldsh, if_neg h]
theorem ls_0 {R : Nat → Int32} {x : Int32} (h : x = 0) (hx : x = rat R 3) : FP.dconst0 = ldsh R := by
  subst hx
  rw [ldsh, if_pos h]
theorem mp_e {R : Nat → Int32} (h : ¬ R 4 = 0) : FP.fdiv (FP.i2f (R 7)) (FP.i2f (R 4)) = mnpw R := by rw [mnpw, if_neg h]
theorem mp_0 {R : Nat → Int32} (h : R 4 = 0) : FP.fconst0 = mnpw R := by rw [mnpw, if_pos h]
theorem it_rat {R : Nat → Int32} {i : Nat} (h : gd R) (hi : i < 3) : rat R i + R (12 + 10 * i) * R (8 + 10 * i) = rat R (i + 1) := rat_s (gd_bz h) hi
