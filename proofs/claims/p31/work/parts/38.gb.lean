/-! ranges behind calls -/
theorem in_nI {v : Int32} {a b : Nat} {A B : Int32} (hA : A = nI a) (hB : B = nI b) (hb : b < 2 ^ 31) (ha : a ≤ b) (h : ¬ v < A ∧ ¬ B < v) : ∃ j : Nat, a ≤ j ∧ j ≤ b ∧ v = nI j := by
  subst hA hB
  have h0 : ¬ v < 0 := fun q => h.1 (Int32.lt_of_lt_of_le q (nI_pos' (by omega)))
  obtain ⟨j, h2, h3⟩ := nI_of2 (x := v) (M := nI b) (n := b) (nI_toInt hb) h0 (Int32.not_lt.mp h.2)
  refine ⟨j, ?_, h2, h3⟩
  rw [h3] at h
  have := h.1
  rcases Nat.lt_or_ge j a with q | q
  · exact absurd (nI_lt q (by omega)) this
  · exact q

theorem sp_in {v : Int32} (h : ¬ v < 4700 ∧ ¬ 5300 < v) : ∃ a : Nat, a ≤ 600 ∧ v = nI (4700 + a) := by
  obtain ⟨j, h1, h2, h3⟩ := in_nI (a := 4700) (b := 5300) rfl rfl (by decide) (by decide) h
  exact ⟨j - 4700, by omega, by rw [h3, show 4700 + (j - 4700) = j by omega]⟩
theorem DP.all {D : va_G} {G : Nat → ClassId} {α w : Nat → Nat} {R RT RS : Nat → Int32} {kp : Int32} {sv : Nat → Nat → Int32} {n : Nat} {F : Nat → Int32} {len : Nat} {H H1 : Heap} (h : DP D G α w R RT RS kp sv n F len H) (hw : pm w) (hk : ∀ k, k < 104 → α k < H.size → H1[α k]? = H[α k]?) : DP D G α w R RT RS kp sv n F len H1 := by
  have K : ∀ k, k < 115 → ¬ (fun k => 104 ≤ k) k → α k < H.size → H1[α k]? = H[α k]? := fun k _ h2 h3 => hk k (by omega) h3
  obtain ⟨h0, h1, h2, h3, h4, h5⟩ := h
  exact ⟨h0.kept (K 0 (by omega) (by omega) h0.lt), h1.kp (by omega) K (fun k q1 q2 => by omega), h2.kp (by omega) K (fun k q1 q2 => by omega), h3.kp (by omega) K (fun k q1 q2 => by omega), h4.kp hw K (by omega) (by omega) (fun k q1 q2 => by omega), h5.kp K (by omega) (by omega)⟩
theorem DW.all {D : va_G} {G : Nat → ClassId} {α : Nat → Nat} {R RS : Nat → Int32} {kp : Int32} {sv : Nat → Nat → Int32} {n : Nat} {F : Nat → Int32} {len : Nat} {H H1 : Heap} (h : DW D G α R RS kp sv n F len H) (hk : ∀ k, k < 104 → α k < H.size → H1[α k]? = H[α k]?) : DW D G α R RS kp sv n F len H1 := by
  obtain ⟨w, RT, hw, hD⟩ := h
  exact ⟨w, RT, hw, hD.all hw hk⟩
theorem nS_0 {i k : Int32} (h : nS i k = 0) : (∃ j : Nat, j < 3 ∧ i = nI j) ∧ k = 0 := by
  unfold nS at h
  have h0 : ¬ i < 0 := fun q => by rw [if_pos q] at h; exact absurd h (by decide)
  rw [if_neg h0] at h
  have h1 : ¬ 3 ≤ i := fun q => by rw [if_pos q] at h; exact absurd h (by decide)
  rw [if_neg h1] at h
  exact ⟨in_of (N := 3) (by decide) h0 h1, h⟩
theorem nF_0 {i k : Int32} (h : nF i k = 0) : (∃ j : Nat, j < 4 ∧ i = nI j) ∧ k = 0 := by
  unfold nF at h
  have h0 : ¬ i < 0 := fun q => by rw [if_pos q] at h; exact absurd h (by decide)
  rw [if_neg h0] at h
  have h1 : ¬ 4 ≤ i := fun q => by rw [if_pos q] at h; exact absurd h (by decide)
  rw [if_neg h1] at h
  exact ⟨in_of (N := 4) (by decide) h0 h1, h⟩
theorem nR_0 {v a b c k : Int32} (hc : ¬ c = 0) (h : nR v a b c k = 0) : (¬ v < a ∧ ¬ b < v) ∧ k = 0 := by
  unfold nR at h
  have h0 : ¬ v < a := fun q => by rw [if_pos q] at h; exact hc h
  rw [if_neg h0] at h
  have h1 : ¬ b < v := fun q => by rw [if_pos q] at h; exact hc h
  rw [if_neg h1] at h
  exact ⟨⟨h0, h1⟩, h⟩
theorem mono_of {R R' : Nat → Int32} (h : gd R) (hR : ∀ k, 8 ≤ k → k < 38 → R' k = R k) : mono R' := by
  have hA : ∀ i, i < 3 → gdA R' i := fun i hi => gdA_c (h.1 i hi) (fun w hw => hR _ (by omega) (by omega))
  intro j k hjk hk e
  simp only [fok, decide_eq_true_eq] at e ⊢
  refine Int32.le_trans e ?_
  have T : ∀ q, q ≤ 600 → (tot R' (nI (4700 + q))).toInt = (gv R' 0 (nI (4700 + q))).toInt + (gv R' 1 (nI (4700 + q))).toInt + (gv R' 2 (nI (4700 + q))).toInt := fun q hq => by
    have h0 := gv_b (hA 0 (by omega)) hq; have h1 := gv_b (hA 1 (by omega)) hq; have h2 := gv_b (hA 2 (by omega)) hq
    rw [← tot3, Int32.toInt_add, Int32.toInt_add, Int.bmod_eq_of_le (n := (gv R' 0 (nI (4700 + q))).toInt + (gv R' 1 (nI (4700 + q))).toInt) (by omega) (by omega), Int.bmod_eq_of_le (by omega) (by omega)]
  rw [Int32.le_iff_toInt_le, T k hk, T j (Nat.le_trans hjk hk)]
  have h0 := gv_m (hA 0 (by omega)) hjk hk; have h1 := gv_m (hA 1 (by omega)) hjk hk; have h2 := gv_m (hA 2 (by omega)) hjk hk
  omega
theorem mono_sw {R : Nat → Int32} {j : Nat} {x : Int32} (h : gd R) (hx : x = 0 ∨ x = 1) : mono (rst (upd R (12 + 10 * j) x) j) := by
  by_cases q : j < 3
  · exact gd_mono (gd_sw (k := 12) h q (Or.inr rfl) hx)
  · exact mono_of h (fun k h1 h2 => by rw [rst_at (by omega), upd_ne (by omega)])
theorem mono_us {R : Nat → Int32} {j k : Nat} (h : gd R) (hk : k ≤ 600) : mono (usp R j (nI (4700 + k))) := by
  by_cases q : j < 3
  · exact gd_mono (gd_usp h q hk)
  · exact mono_of h (fun k h1 h2 => upd_ne (by omega))
theorem gb_build {R : Nat → Int32} {i r d : Int32} {c : Nat} (h : gd R) (hb : bud R c) (h0 : cBuild R i r d = 0) : gd (upd (upd R (8 + 10 * ix i) r) (9 + 10 * ix i) d) ∧ bud (upd (upd R (8 + 10 * ix i) r) (9 + 10 * ix i) d) c := by
  obtain ⟨⟨j, hj, rfl⟩, h1⟩ := nS_0 h0
  obtain ⟨h2, h3⟩ := nR_0 (by decide) h1
  obtain ⟨h4, -⟩ := nR_0 (by decide) h3
  obtain ⟨a, a1, a2, rfl⟩ := in_nI (a := 100) (b := 500) rfl rfl (by decide) (by decide) h2
  obtain ⟨b, b1, b2, rfl⟩ := in_nI (a := 100) (b := 400) rfl rfl (by decide) (by decide) h4
  rw [ix_nI (by omega)]
  exact ⟨gd_bld h hj a1 a2 b1 b2, bud_c hb (by rw [upd_ne (by omega), upd_ne (by omega)]) (by rw [upd_ne (by omega), upd_ne (by omega)])⟩
theorem gb_speed {R : Nat → Int32} {i v : Int32} {c : Nat} (h : gd R) (hb : bud R c) (h0 : cSpeed i v = 0) : gd (upd R (10 + 10 * ix i) v) ∧ bud (upd R (10 + 10 * ix i) v) c := by
  obtain ⟨⟨j, hj, rfl⟩, h1⟩ := nS_0 h0
  obtain ⟨h2, -⟩ := nR_0 (by decide) h1
  obtain ⟨a, ha, rfl⟩ := sp_in h2
  rw [ix_nI (by omega)]
  exact ⟨gd_usp h hj ha, bud_c hb (upd_ne (by omega)) (upd_ne (by omega))⟩
theorem gb_sw {R : Nat → Int32} {i x : Int32} {k c : Nat} (h : gd R) (hb : bud R c) (hi : ∃ j : Nat, j < 3 ∧ i = nI j) (hk : k = 11 ∨ k = 12) (hx : x = 0 ∨ x = 1) : gd (rst (upd R (k + 10 * ix i) x) (ix i)) ∧ bud (rst (upd R (k + 10 * ix i) x) (ix i)) c := by
  obtain ⟨j, hj, rfl⟩ := hi
  rw [ix_nI (by omega)]
  exact ⟨gd_sw h hj hk hx, bud_c hb (by rw [rst_at (by omega), upd_ne (by omega)]) (by rw [rst_at (by omega), upd_ne (by omega)])⟩
theorem gb_load {R : Nat → Int32} {i v : Int32} {c : Nat} (h : gd R) (hb : bud R c) (h0 : cLoad i v = 0) : gd (upd R (38 + 3 * ix i) v) ∧ bud (upd R (38 + 3 * ix i) v) c := by
  obtain ⟨⟨j, hj, rfl⟩, h1⟩ := nF_0 h0
  obtain ⟨h2, -⟩ := nR_0 (by decide) h1
  obtain ⟨a, -, ha, rfl⟩ := in_nI (a := 0) (b := 300) rfl rfl (by decide) (by decide) h2
  rw [ix_nI (by omega)]
  exact ⟨gd_load h hj ha, bud_c hb (upd_ne (by omega)) (upd_ne (by omega))⟩
theorem gb_feed {R : Nat → Int32} {i v : Int32} {c : Nat} (h : gd R) (hb : bud R c) (h0 : cFeed i v = 0) : gd (upd R (39 + 3 * ix i) v) ∧ bud (upd R (39 + 3 * ix i) v) c := by
  obtain ⟨⟨j, hj, rfl⟩, h1⟩ := nF_0 h0
  obtain ⟨h2, -⟩ := nR_0 (by decide) h1
  have h3 : v = 0 ∨ v = 1 := by
    by_cases q : v = 1
    · exact Or.inr q
    · exact Or.inl (v0_of h2 q)
  rw [ix_nI (by omega)]
  exact ⟨gd_feed h hj h3, bud_c hb (upd_ne (by omega)) (upd_ne (by omega))⟩
theorem gb_pass {R : Nat → Int32} {t : Int32} {c : Nat} (h : gd R) (hb : bud R c) (h0 : cPass t = 0) : gd (pt R (ix t)) ∧ bud (pt R (ix t)) (c + 99) := by
  obtain ⟨h2, -⟩ := nR_0 (by decide) h0
  obtain ⟨j, hj, rfl⟩ := pass_nI h2
  rw [ix_nI (by omega)]
  exact ⟨gd_pt h _, bud_le (bud_pt h hb j) (by omega)⟩
theorem gb_set {R : Nat → Int32} {i v : Int32} {c : Nat} (h : gd R) (hb : bud R c) (h0 : cSet i v = 0) : gd (upd R (ix i) v) ∧ bud (upd R (ix i) v) c := by
  obtain ⟨⟨j, hj, rfl⟩, h1⟩ := nF_0 h0
  rw [ix_nI (by omega)] at h1 ⊢
  obtain ⟨h2, -⟩ := nR_0 (by decide) h1
  refine ⟨?_, bud_c hb (upd_ne (by omega)) (upd_ne (by omega))⟩
  by_cases q : j < 2
  · refine gd_set h q ?_
    have := h2.1
    rw [lst, if_pos q] at this
    exact Int32.not_lt.mp this
  · exact gd_lo h (by omega)
