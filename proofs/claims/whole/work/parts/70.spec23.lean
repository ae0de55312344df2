/-! a complete text, order by order, out of the places alone -/
theorem adv {F : Nat → Int32} {len k : Nat} {q : Int32} (hc : dfa F len = 16 ∨ dfa F len = 15) (hd : dfa F k = q) (hk : k ≤ len) (h15 : ¬ q = 15) (h16 : ¬ q = 16) : k < len ∧ ¬ nxt q (F k) = 0 := by
  have hl : k < len := by
    rcases Nat.lt_or_ge k len with h | h
    · exact h
    · have e : k = len := by omega
      rw [e] at hd
      rcases hc with hc | hc
      · exact absurd (hd.symm.trans hc) h16
      · exact absurd (hd.symm.trans hc) h15
  refine ⟨hl, ?_⟩
  have hz : ¬ dfa F len = 0 := by rcases hc with hc | hc <;> rw [hc] <;> decide
  have := dfa_nz hz (show k + 1 ≤ len by omega)
  rw [df_s hd] at this
  exact this
theorem bt_nz {c a b t : Int32} (h : ¬ btw c a b t = 0) : ¬ c < a ∧ ¬ b < c := by
  unfold btw at h
  have h0 : ¬ c < a := fun q => h (by rw [if_pos q])
  rw [if_neg h0] at h
  exact ⟨h0, fun q => h (by rw [if_pos q])⟩
theorem ord_end {F : Nat → Int32} {len a e : Nat} (hc : dfa F len = 16 ∨ dfa F len = 15) (hd : dfa F e = 16) (he : e ≤ len) (ha : a ≤ e) (hn : ∀ k, a ≤ k → k < e → ¬ F k = 59) : eop F a (len - a) = e ∧ (e < len → dfa F (e + 1) = 1) := by
  by_cases q : e = len
  · exact ⟨eop_to _ _ ha hn (Or.inl (by omega)), fun h => by omega⟩
  · have hz : ¬ dfa F len = 0 := by rcases hc with hc | hc <;> rw [hc] <;> decide
    have h1 := dfa_nz hz (show e + 1 ≤ len by omega)
    rw [df_s hd, nx16] at h1
    have h2 := c_one (bt_nz h1)
    refine ⟨eop_to _ _ ha hn (Or.inr ⟨by omega, h2⟩), fun _ => ?_⟩
    rw [df_s hd, h2]; rfl
theorem aft_l {c : Int32} (h : ¬ aftl c = 0) : ltr c := by
  refine Classical.byContradiction (fun q => h ?_)
  refine aft_no (fun z => q ?_) (fun z => q ?_) (fun z => q ?_) (fun z => q ?_) (fun z => q ?_) (fun z => q ?_) (fun z => q ?_)
  · exact Or.inl z
  · exact Or.inr (Or.inl z)
  · exact Or.inr (Or.inr (Or.inl z))
  · exact Or.inr (Or.inr (Or.inr (Or.inl z)))
  · exact Or.inr (Or.inr (Or.inr (Or.inr (Or.inl z))))
  · exact Or.inr (Or.inr (Or.inr (Or.inr (Or.inr (Or.inl z)))))
  · exact Or.inr (Or.inr (Or.inr (Or.inr (Or.inr (Or.inr z)))))
def ordS (F : Nat → Int32) (len a e : Nat) : Prop := ltr (F a) ∧ (∃ y2 y3, ordR F len (F a) y2 y3 a e) ∧ eop F a (len - a) = e ∧ (e < len → dfa F (e + 1) = 1)
theorem no_1 {F : Nat → Int32} {a e : Nat} (hl : ltr (F a)) (h : ∀ k, a + 1 ≤ k → k < e → ¬ F k = 59) : ∀ k, a ≤ k → k < e → ¬ F k = 59 := by
  intro k h1 h2
  by_cases q : k = a
  · rw [q]; exact ltr_59 hl
  · exact h k (by omega) h2
theorem ord_2 {F : Nat → Int32} {len a : Nat} (hc : dfa F len = 16 ∨ dfa F len = 15) (ha : a < len) (hl : ltr (F a)) (h1 : ¬ F a = 116) (h2 : ¬ F a = 102) (h3 : ¬ F a = 115) (hd : dfa F (a + 1) = 2) : ∃ e, ordS F len a e := by
  obtain ⟨g1, g2⟩ := adv hc hd (by omega) (by decide) (by decide)
  rw [nx2] at g2
  have r := bt_nz g2
  have d2 : dfa F (a + 2) = 16 := (df_s hd).trans (by rw [nx2, bt_y r])
  have hn : ∀ k, a + 1 ≤ k → k < a + 2 → ¬ F k = 59 := fun k q1 q2 => by rw [show k = a + 1 by omega]; exact c_not r (Or.inr (by decide))
  obtain ⟨e1, e2⟩ := ord_end (a := a) hc d2 (by omega) (by omega) (no_1 hl hn)
  obtain ⟨j, hj, -, en⟩ := set_nI (b := 50) (N := 50) rfl (by omega) g1 r
  exact ⟨a + 2, hl, ⟨nI j, 0, Nat.le_refl _, by omega, hn, fun q => absurd q h1, fun _ => ⟨j, by omega, fun _ => by omega, rfl, en⟩, fun q => absurd q h2, fun q => absurd q h3⟩, e1, e2⟩
theorem ord_f {F : Nat → Int32} {len a : Nat} (hc : dfa F len = 16 ∨ dfa F len = 15) (ha : a < len) (h : F a = 102) (hd : dfa F (a + 1) = 12) : ∃ e, ordS F len a e := by
  have hl : ltr (F a) := by rw [h]; exact Or.inr (Or.inr (Or.inr (Or.inr (Or.inr (Or.inl rfl)))))
  obtain ⟨g1, g2⟩ := adv hc hd (by omega) (by decide) (by decide)
  rw [nx12] at g2
  have r := bt_nz g2
  have d2 : dfa F (a + 2) = 13 := (df_s hd).trans (by rw [nx12, bt_y r])
  obtain ⟨g3, g4⟩ := adv hc d2 (by omega) (by decide) (by decide)
  have s2 : F (a + 2) = 45 ∨ F (a + 2) = 43 := by
    rw [nx13] at g4
    by_cases q : F (a + 2) = 45
    · exact Or.inl q
    · rw [if_neg q] at g4; exact Or.inr (c_one (bt_nz g4))
  have d3 : dfa F (a + 3) = 16 := (df_s d2).trans (by rcases s2 with q | q <;> rw [q] <;> rfl)
  have hn : ∀ k, a + 1 ≤ k → k < a + 3 → ¬ F k = 59 := fun k q1 q2 => by
    by_cases w : k = a + 1
    · rw [w]; exact c_not r (Or.inr (by decide))
    · rw [show k = a + 2 by omega]
      rcases s2 with q | q <;> rw [q] <;> decide
  obtain ⟨e1, e2⟩ := ord_end (a := a) hc d3 (by omega) (by omega) (no_1 hl hn)
  obtain ⟨j, hj, -, en⟩ := set_nI (b := 51) (N := 51) rfl (by omega) g1 r
  exact ⟨a + 3, hl, ⟨nI j, _, by omega, by omega, hn, fun q => absurd (h.symm.trans q) (by decide), fun _ => ⟨j, by omega, fun q => absurd h q, rfl, en⟩, fun _ => rfl, fun q => absurd (h.symm.trans q) (by decide)⟩, e1, e2⟩
theorem ord_t {F : Nat → Int32} {len a : Nat} (hc : dfa F len = 16 ∨ dfa F len = 15) (ha : a < len) (h : F a = 116) (hd : dfa F (a + 1) = 14) : ∃ e, ordS F len a e := by
  have hl : ltr (F a) := by rw [h]; exact Or.inr (Or.inr (Or.inr (Or.inr (Or.inr (Or.inr rfl)))))
  obtain ⟨g1, g2⟩ := adv hc hd (by omega) (by decide) (by decide)
  rw [nx14] at g2
  have r := bt_nz g2
  have d2 : dfa F (a + 2) = 15 := (df_s hd).trans (by rw [nx14, bt_y r])
  have hn : ∀ k, a + 1 ≤ k → k < a + 2 → ¬ F k = 59 := fun k q1 q2 => by rw [show k = a + 1 by omega]; exact c_not r (Or.inr (by decide))
  obtain ⟨t, ht, -, en⟩ := tck1 g1 r
  have R2 : ordR F len (F a) (nI t) 0 a (a + 2) := ⟨Nat.le_refl _, by omega, hn, fun _ => ⟨t, ht, rfl, by rw [show a + 2 - (a + 1) = 1 by omega]; exact en⟩, fun q => absurd h q, fun q => absurd (h.symm.trans q) (by decide), fun q => absurd (h.symm.trans q) (by decide)⟩
  by_cases q : a + 2 = len
  · exact ⟨a + 2, hl, ⟨_, _, R2⟩, eop_to _ _ (by omega) (no_1 hl hn) (Or.inl (by omega)), fun w => by omega⟩
  · have hz : ¬ dfa F len = 0 := by rcases hc with hc | hc <;> rw [hc] <;> decide
    have h1 := dfa_nz hz (show a + 2 + 1 ≤ len by omega)
    rw [df_s d2, nx15] at h1
    by_cases q2 : F (a + 2) = 59
    · exact ⟨a + 2, hl, ⟨_, _, R2⟩, eop_to _ _ (by omega) (no_1 hl hn) (Or.inr ⟨by omega, q2⟩), fun _ => by rw [df_s d2, q2]; rfl⟩
    · rw [if_neg q2] at h1
      have r2 := bt_nz h1
      have d3 : dfa F (a + 3) = 16 := (df_s d2).trans (by rw [nx15, if_neg q2, bt_y r2])
      have hn3 : ∀ k, a + 1 ≤ k → k < a + 3 → ¬ F k = 59 := fun k q1 q3 => by
        by_cases w : k = a + 2
        · rw [w]; exact q2
        · exact hn k q1 (by omega)
      obtain ⟨e1, e2⟩ := ord_end (a := a) hc d3 (by omega) (by omega) (no_1 hl hn3)
      obtain ⟨t2, ht2, -, en2⟩ := tck2 (show a + 1 + 1 < len by omega) r r2
      exact ⟨a + 3, hl, ⟨nI t2, 0, by omega, by omega, hn3, fun _ => ⟨t2, ht2, rfl, by rw [show a + 3 - (a + 1) = 2 by omega]; exact en2⟩, fun q => absurd h q, fun q => absurd (h.symm.trans q) (by decide), fun q => absurd (h.symm.trans q) (by decide)⟩, e1, e2⟩
theorem ord_s {F : Nat → Int32} {len a : Nat} (hc : dfa F len = 16 ∨ dfa F len = 15) (ha : a < len) (h : F a = 115) (hd : dfa F (a + 1) = 3) : ∃ e, ordS F len a e := by
  have hl : ltr (F a) := by rw [h]; exact Or.inl rfl
  obtain ⟨g1, g2⟩ := adv hc hd (by omega) (by decide) (by decide)
  rw [nx3] at g2
  have r1 := bt_nz g2
  have d2 : dfa F (a + 2) = 4 := (df_s hd).trans (by rw [nx3, bt_y r1])
  obtain ⟨g3, g4⟩ := adv hc d2 (by omega) (by decide) (by decide)
  rw [nx4] at g4
  have r2 := bt_nz g4
  have d3 : dfa F (a + 3) = 5 := (df_s d2).trans (by rw [nx4, bt_y r2])
  obtain ⟨g5, g6⟩ := adv hc d3 (by omega) (by decide) (by decide)
  rw [nx5] at g6
  have key : ∃ v : Nat, a + 7 ≤ len ∧ dfa F (a + 7) = 16 ∧ v ≤ 600 ∧ nmb F len (a + 3) 4 = nI (4700 + v) ∧ ¬ F (a + 3) = 59 ∧ ¬ F (a + 4) = 59 ∧ ¬ F (a + 5) = 59 ∧ ¬ F (a + 6) = 59 := by
    by_cases q : F (a + 3) = 53
    · have d4 : dfa F (a + 4) = 7 := (df_s d3).trans (by rw [nx5, if_pos q])
      obtain ⟨g7, g8⟩ := adv hc d4 (by omega) (by decide) (by decide)
      rw [nx7] at g8
      by_cases q2 : F (a + 4) = 51
      · have d5 : dfa F (a + 5) = 8 := (df_s d4).trans (by rw [nx7, if_pos q2])
        obtain ⟨g9, g10⟩ := adv hc d5 (by omega) (by decide) (by decide)
        rw [nx8] at g10
        have r5 := bt_nz g10
        have d6 : dfa F (a + 6) = 9 := (df_s d5).trans (by rw [nx8, bt_y r5])
        obtain ⟨g11, g12⟩ := adv hc d6 (by omega) (by decide) (by decide)
        rw [nx9] at g12
        have r6 := bt_nz g12
        obtain ⟨v, hv, -, en⟩ := spd3 (p := a + 2) (show a + 2 + 5 ≤ len by omega) q q2 r5 r6
        exact ⟨v, by omega, (df_s d6).trans (by rw [nx9, bt_y r6]), hv, en, by rw [q]; decide, by rw [q2]; decide, c_not r5 (Or.inr (by decide)), c_not r6 (Or.inr (by decide))⟩
      · rw [if_neg q2] at g8
        have r4 := bt_nz g8
        have d5 : dfa F (a + 5) = 10 := (df_s d4).trans (by rw [nx7, if_neg q2, bt_y r4])
        obtain ⟨g9, g10⟩ := adv hc d5 (by omega) (by decide) (by decide)
        rw [nx10] at g10
        have r5 := bt_nz g10
        have d6 : dfa F (a + 6) = 11 := (df_s d5).trans (by rw [nx10, bt_y r5])
        obtain ⟨g11, g12⟩ := adv hc d6 (by omega) (by decide) (by decide)
        rw [nx11] at g12
        have r6 := bt_nz g12
        obtain ⟨v, hv, -, en⟩ := spd5 (p := a + 2) (show a + 2 + 5 ≤ len by omega) q r4 r5 r6
        exact ⟨v, by omega, (df_s d6).trans (by rw [nx11, bt_y r6]), hv, en, by rw [q]; decide, c_not r4 (Or.inr (by decide)), c_not r5 (Or.inr (by decide)), c_not r6 (Or.inr (by decide))⟩
    · rw [if_neg q] at g6
      have q1 : F (a + 3) = 52 := c_one (bt_nz g6)
      have d4 : dfa F (a + 4) = 6 := (df_s d3).trans (by rw [nx5, if_neg q, bt_y (bt_nz g6)])
      obtain ⟨g7, g8⟩ := adv hc d4 (by omega) (by decide) (by decide)
      rw [nx6] at g8
      have r4 := bt_nz g8
      have d5 : dfa F (a + 5) = 10 := (df_s d4).trans (by rw [nx6, bt_y r4])
      obtain ⟨g9, g10⟩ := adv hc d5 (by omega) (by decide) (by decide)
      rw [nx10] at g10
      have r5 := bt_nz g10
      have d6 : dfa F (a + 6) = 11 := (df_s d5).trans (by rw [nx10, bt_y r5])
      obtain ⟨g11, g12⟩ := adv hc d6 (by omega) (by decide) (by decide)
      rw [nx11] at g12
      have r6 := bt_nz g12
      obtain ⟨v, hv, -, en⟩ := spd4 (p := a + 2) (show a + 2 + 5 ≤ len by omega) q1 r4 r5 r6
      exact ⟨v, by omega, (df_s d6).trans (by rw [nx11, bt_y r6]), hv, en, by rw [q1]; decide, c_not r4 (Or.inr (by decide)), c_not r5 (Or.inr (by decide)), c_not r6 (Or.inr (by decide))⟩
  obtain ⟨v, hv1, hv2, hv3, hv4, n3, n4, n5, n6⟩ := key
  have hn : ∀ k, a + 1 ≤ k → k < a + 7 → ¬ F k = 59 := fun k q1 q2 => by
    by_cases w : k = a + 1
    · rw [w]; exact c_not r1 (Or.inr (by decide))
    · exact no59_5 (p := a + 2) (c_not r2 (Or.inl (by decide))) n3 n4 n5 n6 k (by omega) (by omega)
  obtain ⟨e1, e2⟩ := ord_end (a := a) hc hv2 hv1 (by omega) (no_1 hl hn)
  obtain ⟨j, hj, -, en⟩ := set_nI (b := 50) (N := 50) rfl (by omega) g1 r1
  exact ⟨a + 7, hl, ⟨nI j, nI (4700 + v), by omega, hv1, hn, fun q => absurd (h.symm.trans q) (by decide), fun _ => ⟨j, by omega, fun _ => by omega, rfl, en⟩, fun q => absurd (h.symm.trans q) (by decide), fun _ => ⟨by omega, v, hv3, rfl, by rw [show a + 7 - (a + 3) = 4 by omega]; exact hv4⟩⟩, e1, e2⟩
theorem ord_at {F : Nat → Int32} {len a : Nat} (hc : dfa F len = 16 ∨ dfa F len = 15) (ha : a < len) (hd : dfa F a = 1) : ∃ e, ordS F len a e := by
  obtain ⟨-, g2⟩ := adv hc hd (by omega) (by decide) (by decide)
  rw [nx1] at g2
  have hl := aft_l g2
  have d1 : dfa F (a + 1) = aftl (F a) := (df_s hd).trans (nx1 _)
  have h2 : ∀ (x : Int32), F a = x → aftl x = 2 → ¬ x = 116 → ¬ x = 102 → ¬ x = 115 → ∃ e, ordS F len a e := fun x hx h2 b1 b2 b3 => by
    subst hx
    exact ord_2 hc ha hl b1 b2 b3 (d1.trans h2)
  rcases hl with q | q | q | q | q | q | q
  · exact ord_s hc ha q (d1.trans (by rw [q]; rfl))
  · exact h2 _ q rfl (by decide) (by decide) (by decide)
  · exact h2 _ q rfl (by decide) (by decide) (by decide)
  · exact h2 _ q rfl (by decide) (by decide) (by decide)
  · exact h2 _ q rfl (by decide) (by decide) (by decide)
  · exact ord_f hc ha q (d1.trans (by rw [q]; rfl))
  · exact ord_t hc ha q (d1.trans (by rw [q]; rfl))
/-- what the class's obey asks of its start and of each order -/
def obJ (F : Nat → Int32) (len : Nat) (a : Nat) (R : Nat → Int32) : Prop := gd R ∧ (dfa F len = 16 ∨ dfa F len = 15) ∧ (a < len → dfa F a = 1)
theorem ord_K {F : Nat → Int32} {len a e : Nat} {y2 y3 : Int32} (hl : ltr (F a)) (h : ordR F len (F a) y2 y3 a e) : ordK F len (fun _ => F a) (fun _ => y2) (fun _ => y3) 0 a e := ⟨h, rfl, hl⟩
theorem obJ_0 {F : Nat → Int32} {len : Nat} {R : Nat → Int32} (h : gd R) : cObey F len = 0 → obJ F len 0 R := fun q => by
  refine ⟨h, ?_, fun _ => rfl⟩
  unfold cObey at q
  split at q
  · rename_i z; exact Or.inl z
  · split at q
    · rename_i z; exact Or.inr z
    · exact absurd q (by decide)
theorem obJ_s {F : Nat → Int32} {len : Nat} : ∀ (a : Nat) (R : Nat → Int32), a < len → obJ F len a R → ¬ (car R F len a (eop F a (len - a))).1 = 0 → obJ F len (eop F a (len - a) + 1) (car R F len a (eop F a (len - a))).2 := by
  intro a R ha h _
  obtain ⟨e, hl, ⟨y2, y3, hr⟩, he, hn⟩ := ord_at h.2.1 ha (h.2.2 ha)
  rw [he]
  have hk := ord_K hl hr
  refine ⟨?_, h.2.1, fun q => hn (by omega)⟩
  rw [car_aco hk]
  exact gd_aco h.1 (ord_num hk)
theorem obJ_m {F : Nat → Int32} {len : Nat} : ∀ (a : Nat) (R : Nat → Int32), obJ F len a R → bz R ∧ mono R ∧ (a < len → a + 1 ≤ (eop F a (len - a)) ∧ (cod F len a = 115 → a + 3 ≤ (eop F a (len - a))) ∧ (cod F len a = 116 → ∃ j, j ≤ 99 ∧ nmb F len (a + 1) ((eop F a (len - a)) - (a + 1)) = nI j ∧ ∀ k, k < j → mono (pt R k))) := by
  intro a R h
  refine ⟨gd_bz h.1, gd_mono h.1, fun ha => ?_⟩
  obtain ⟨e, hl, ⟨y2, y3, hr⟩, he, hn⟩ := ord_at h.2.1 ha (h.2.2 ha)
  rw [he, cod_in ha]
  obtain ⟨h1, h2, -, h4, h5, h6, h7⟩ := hr
  refine ⟨by omega, fun q => (h7 q).1, fun q => ?_⟩
  obtain ⟨t, ht, -, e3⟩ := h4 q
  exact ⟨t, ht, e3, fun k _ => gd_mono (gd_pt h.1 k)⟩
