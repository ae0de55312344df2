/-! what a call of the law leaves -/
def gw (R : Nat → Int32) : Prop := gd R ∧ ph R ∧ en R
theorem gw_sw {R : Nat → Int32} {j k : Nat} {x : Int32} (h : gw R) (hj : j < 3) (hk : k = 11 ∨ k = 12) (hx : x = 0 ∨ x = 1) : gw (rst (upd R (k + 10 * j) x) j) :=
  ⟨gd_sw h.1 hj hk hx, ph_rst (ph_u h.2.1 (fun i hi => by omega)), en_c h.2.2 (fun q hq => by rw [rst_at (by omega), upd_ne (by omega)])⟩
theorem bud_sw {R : Nat → Int32} {j k c : Nat} {x : Int32} (h : bud R c) (hj : j < 3) (hk : k = 11 ∨ k = 12) : bud (rst (upd R (k + 10 * j) x) j) c :=
  bud_c h (by rw [rst_at (by omega), upd_ne (by omega)]) (by rw [rst_at (by omega), upd_ne (by omega)])
theorem run_3 {R : Nat → Int32} (hb : bz R) : osum R 11 3 = R (11 + 10 * 0) + R (11 + 10 * 1) + R (11 + 10 * 2) := (sm3_o (v := 11) (fun i hi => (hb.1 i hi).1)).symm
theorem rsn_gt {R : Nat → Int32} {j : Nat} (h1 : ¬ R (11 + 10 * j) = 0) (h2 : ¬ R (12 + 10 * j) = 1) (hb : bz R) (hj : j < 3) (h3 : ¬ rsn R j = 0) : ¬ tset R j 12 ≤ 2 := by
  show ¬ rsn R j ≤ 2
  have e : rsn R j = if alv R = 0 then 0 else if ab (R (10 + 10 * j) - fq R) ≤ R 2 then (if lam (R (13 + 10 * j)) ≤ R 3 then 0 else 4) else 3 := by
    rw [rsn, if_neg h1, if_neg (not_not_intro ((hb.1 j hj).2.resolve_right h2))]
  rw [e] at h3 ⊢
  split
  · rename_i q
    rw [if_pos q] at h3; exact absurd rfl h3
  · rename_i q
    rw [if_neg q] at h3
    split
    · rename_i q2
      rw [if_pos q2] at h3
      split
      · rename_i q3
        rw [if_pos q3] at h3; exact absurd rfl h3
      · decide
    · decide
theorem rgN {lo hi m : Nat} (h1 : lo ≤ m) (h2 : m ≤ hi) (h3 : hi < 2 ^ 31) : ¬ nI m < nI lo ∧ ¬ nI hi < nI m := ⟨nI_nlt h1 (by omega), nI_nlt h2 h3⟩
theorem gw_bld {R : Nat → Int32} {j r d : Nat} (h : gw R) (hj : j < 3) (hr1 : 100 ≤ r) (hr2 : r ≤ 500) (hd1 : 100 ≤ d) (hd2 : d ≤ 400) : gw (upd (upd R (8 + 10 * j) (nI r)) (9 + 10 * j) (nI d)) :=
  ⟨gd_bld h.1 hj hr1 hr2 hd1 hd2, ph_u (ph_u h.2.1 (fun i hi => by omega)) (fun i hi => by omega), en_c h.2.2 (fun q hq => by rw [upd_ne (by omega), upd_ne (by omega)])⟩
theorem gw_usp {R : Nat → Int32} {j a : Nat} (h : gw R) (hj : j < 3) (ha : a ≤ 600) : gw (usp R j (nI (4700 + a))) :=
  ⟨gd_usp h.1 hj ha, ph_u h.2.1 (fun i hi => by omega), en_c h.2.2 (fun q hq => upd_ne (by omega))⟩
theorem gw_load {R : Nat → Int32} {j a : Nat} (h : gw R) (hj : j < 4) (ha : a ≤ 300) : gw (upd R (38 + 3 * j) (nI a)) :=
  ⟨gd_load h.1 hj ha, ph_u h.2.1 (fun i hi => by omega), en_c h.2.2 (fun q hq => upd_ne (by omega))⟩
theorem gw_feed {R : Nat → Int32} {j : Nat} {x : Int32} (h : gw R) (hj : j < 4) (hx : x = 0 ∨ x = 1) : gw (upd R (39 + 3 * j) x) :=
  ⟨gd_feed h.1 hj hx, ph_u h.2.1 (fun i hi => by omega), en_c h.2.2 (fun q hq => upd_ne (by omega))⟩
theorem gw_set {R : Nat → Int32} {k a : Nat} (h : gw R) (hk : k < 4) (h1 : k < 2 → 1 ≤ a) (ha : a < 2 ^ 31) : gw (upd R k (nI a)) := by
  refine ⟨?_, ph_u h.2.1 (fun i hi => by omega), en_c h.2.2 (fun q hq => upd_ne (by omega))⟩
  by_cases q : k < 2
  · exact gd_set h.1 q (nI_le (a := 1) (b := a) (h1 q) ha)
  · exact gd_lo h.1 (by omega)
theorem gw_pt {R : Nat → Int32} (h : gw R) (n : Nat) : gw (pt R n) := ⟨gd_pt h.1 n, ph_pt h.1 h.2.1 n, en_pt h.1 h.2.2 n⟩
theorem set_ok {k v : Nat} (h : (k < 2 ∧ 1 ≤ v ∧ v ≤ 9) ∨ (k = 2 ∧ v ≤ 50) ∨ (2 < k ∧ v ≤ 200)) : ¬ nI v < lst k ∧ ¬ mst k < nI v := by
  unfold lst mst
  rcases h with ⟨h1, h2, h3⟩ | ⟨rfl, h2⟩ | ⟨h1, h2⟩
  · rw [if_pos h1, if_pos h1]; exact rgN (lo := 1) (hi := 9) h2 h3 (by decide)
  · rw [if_neg (by decide), if_neg (by decide), if_pos rfl]; exact rgN (lo := 0) (hi := 50) (Nat.zero_le _) h2 (by decide)
  · rw [if_neg (by omega), if_neg (by omega), if_neg (by omega)]; exact rgN (lo := 0) (hi := 200) (Nat.zero_le _) h2 (by decide)
theorem nI_ge2 {k : Nat} (hk : k < 4) (h : 2 ≤ nI k) : 2 ≤ k := by
  rcases Nat.lt_or_ge k 2 with q | q
  · exact absurd h (nI_ge (a := k) (b := 2) q (by decide))
  · exact q
theorem nI_lt2 {k : Nat} (hk : k < 4) (h : ¬ 2 ≤ nI k) : k < 2 := by
  rcases Nat.lt_or_ge k 2 with q | q
  · exact q
  · exact absurd (nI_le (a := 2) (b := k) q (by omega)) h
theorem nI_ne2 {k : Nat} (hk : k < 4) (h : ¬ nI k = 2) : k ≠ 2 := fun e => h (by rw [e]; rfl)
theorem nI_eq2 {k : Nat} (hk : k < 4) (h : nI k = 2) : k = 2 := (nI_eq (b := 2) (by omega) (by decide)).mp h
theorem fq_sum {R : Nat → Int32} {a : Nat} (h : ¬ fq R ≤ 0) (h2 : ¬ 5290 ≤ fq R) (ha : a < 9) : ∃ s, s ≤ 600 ∧ fq R + nI a = nI (4700 + s) := by
  obtain ⟨k, hk, ek, -⟩ := fq_ex (al_f1 h)
  rw [ek] at h2 ⊢
  have h3 : k < 590 := by
    rcases Nat.lt_or_ge k 590 with q | q
    · exact q
    · exact absurd (nI_le (a := 5290) (b := 4700 + k) (by omega) (by omega)) h2
  exact ⟨k + a, by omega, by rw [nI_add]; congr 1; omega⟩
