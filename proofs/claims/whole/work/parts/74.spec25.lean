/-! the law's loop: what holds ahead of every call -/
section DPM
variable {p : Program} {l : Launch} {e : Env} {R : Room} {s : State} {m : MethodId} {args : Array Value} {below : List Frame} {meth : Method} {c : Code} {H : Heap} {locs : List Loc} {cells slots : Nat} {Q : State → Prop}
variable {cc : ByteArray} {pc : Nat} {ls : Array Slot} {D : va_G} {G : Nat → ClassId} {A0 A1 : Nat → Prop}
variable {y : MethodName} {bytes : ByteArray} {maxL nL mc ms n index : Nat} {ret : Option FieldType} {hh : List (Nat × Nat × Nat × Nat)} {ws : List Cond} {rm : Room} {Ts : List Cond} {own : String} {As st0 : List Value}
theorem dpl_Si {P : Int32 → Heap → Prop} (S : CallFix p m c cc nL s args Ts own) (hK : va_K D vwCl (tyS G) s) (hN : NW s) (hE : EWt s) (hZ : EWh A0 s s.heap) (hC : LCt s) (hM : Met l y ws rm (va_Pc As (CL D G A1 H)) (QI A1 P) mc ms A1) (cw : vx_CSW R s args own index y bytes maxL ret hh ws rm mc ms n) (hS : va_S A0 s.heap H locs) (hA : ∀ q, A1 q → A0 q) (rest : List Value) (hst : st0 = As.reverse ++ rest) (hn : As.length = n) (hsize : ls.size = nL) (hW : (rest.map fun v => v.category).sum ≤ 8) (hdg : decode cc pc = .ok (.invokestatic index, 3)) (hf : cells + mc ≤ R.cells ∧ slots + ms ≤ R.slots)
    (kk : ∀ (r : Int32) (H1 : Heap) (locs1 : List Loc), P r H1 → H.size ≤ H1.size → (∀ q : Nat, q < H.size → ¬ A1 q → H1[q]? = H[q]?) → va_S A0 s.heap H1 locs1 → W p l e R s m args below meth c H1 locs1 (cells + mc) (slots + ms) Q (F0 m (pc + 3) ls (.int r :: rest))) : W p l e R s m args below meth c H locs cells slots Q (F0 m pc ls st0) :=
  va_calli (vx_runSW S hM cw ⟨CL_blind, fun U hU hW => ⟨rfl, ⟨hU, va_K.moved hW.alike hK, NW.warm hW hN⟩, EWt.warm hW hE, EWh.moved hW.alike ((hZ.kept hS.2.1).narrow hA), LCt.moved hW.alike hC⟩⟩ rfl hn hsize hst (lv_room hW) hdg hf) hS (fun q _ h => hA q h) hA (fun r u t H1 locs1 ht _ hp hB hz hk hS1 => by
    have e : u = H1 := hB.symm.trans ht
    subst e
    exact kk r u locs1 hp hz hk hS1)
end DPM
theorem lg_self (x : Int64) : lg_cmp x x = 0 := by
  unfold lg_cmp
  rw [if_neg (Int64.lt_irrefl), if_pos rfl]
/-- the model's cells -/
def mu (N : Nat) : Nat → Nat := bb (N + 104) (N + 105)
theorem mu_inj (N : Nat) : inj 10 (mu N) := bb_inj (by omega)
theorem mu_eq {N k : Nat} : mu N k = N + 104 + k := by
  unfold mu bb
  split
  · omega
  · omega
theorem al_nm {N o k j : Nat} (ho : N + 114 ≤ o) (hk : k < 115) (hn : ¬ (104 ≤ k ∧ k < 114)) (hj : j < 10) : al N o k ≠ mu N j := by
  have a := al_cs (N := N) (o := o) hk
  rw [mu_eq]
  omega
theorem A6_al {N o k : Nat} (ho : N + 114 ≤ o) (hk : k < 115) (hn : ¬ (104 ≤ k ∧ k < 114)) : ¬ A6 (mu N) (al N o k) := by
  intro h
  obtain ⟨j, hj, e⟩ := h
  exact al_nm ho hk hn hj e
theorem AL_mu {N o j : Nat} (ho : N + 114 ≤ o) (hj : j < 10) : ¬ AL (al N o) (mu N j) := by
  intro h
  rcases h with ⟨k, hk, e⟩ | e
  · exact al_nm ho (by omega) (by omega) hj e.symm
  · exact al_nm (k := 114) ho (by omega) (by omega) hj e.symm
theorem MM.lt {D : va_G} {G : Nat → ClassId} {μ : Nat → Nat} {R S N B : Nat → Int32} {sm kp th ln : Int32} {H : Heap} (h : MM D G μ R S N B sm kp th ln H) : ∀ k, k < 10 → μ k < H.size := by
  obtain ⟨E, P, L1, L2, L3, la, sp, od, hs, h0, h1, h2, h3, h4, h5, h6, h7, h8, h9⟩ := h
  intro k hk
  rcases (show k = 0 ∨ k = 1 ∨ k = 2 ∨ k = 3 ∨ k = 4 ∨ k = 5 ∨ k = 6 ∨ k = 7 ∨ k = 8 ∨ k = 9 by omega) with rfl | rfl | rfl | rfl | rfl | rfl | rfl | rfl | rfl | rfl
  · exact h0.lt
  · exact h1.lt
  · exact h2.lt
  · exact h3.lt
  · exact h4.lt
  · exact h5.lt
  · exact h6.lt
  · exact h7.lt
  · exact h8.lt
  · exact h9.lt
theorem MM.cl {D : va_G} {G : Nat → ClassId} {N0 o : Nat} {A : Nat → Prop} {R S N B : Nat → Int32} {sm kp th ln : Int32} {H H1 : Heap} (h : MM D G (mu N0) R S N B sm kp th ln H) (ho : N0 + 114 ≤ o) (hA : ∀ q, A q → AL (al N0 o) q) (hk : ∀ q : Nat, q < H.size → ¬ A q → H1[q]? = H[q]?) : MM D G (mu N0) R S N B sm kp th ln H1 :=
  h.keep (fun k hk9 => hk _ (h.lt k hk9) (fun q => AL_mu ho hk9 (hA _ q)))
theorem MM.congR {D : va_G} {G : Nat → ClassId} {μ : Nat → Nat} {R R' S N B : Nat → Int32} {sm kp th ln : Int32} {H : Heap} (h : MM D G μ R S N B sm kp th ln H) (hq : ∀ j, j < 50 → R j = R' j) : MM D G μ R' S N B sm kp th ln H := by
  obtain ⟨E, P, L1, L2, L3, la, sp, od, hs, h⟩ := h
  exact ⟨E, P, L1, L2, L3, la, sp, od, hs, mo_congR h hq⟩
theorem DW.md {D : va_G} {G : Nat → ClassId} {N0 o : Nat} {R RS : Nat → Int32} {kp : Int32} {sv : Nat → Nat → Int32} {n : Nat} {F : Nat → Int32} {len : Nat} {H H1 : Heap} (h : DW D G (al N0 o) R RS kp sv n F len H) (ho : N0 + 114 ≤ o) (hk : ∀ q : Nat, q < H.size → ¬ A6 (mu N0) q → H1[q]? = H[q]?) : DW D G (al N0 o) R RS kp sv n F len H1 :=
  h.all (fun k hk9 hlt => hk _ hlt (A6_al ho (by omega) (by omega)))
/-- what is saved on both sides -/
def svI (sv : Nat → Nat → Int32) (S : Nat → Int32) (n c : Nat) : Prop := ∀ i, i < n → gd (sv i) ∧ bud (sv i) c ∧ ∀ k, k < 50 → sv i k = S (50 * i + k)
theorem svI.le {sv : Nat → Nat → Int32} {S : Nat → Int32} {n c d : Nat} (h : svI sv S n c) (hd : c ≤ d) : svI sv S n d := fun i hi => ⟨(h i hi).1, bud_le (h i hi).2.1 hd, (h i hi).2.2⟩
theorem svI.save {sv : Nat → Nat → Int32} {S R : Nat → Int32} {n c : Nat} (h : svI sv S n c) (hn : n ≤ 6) (hg : gd R) (hb : bud R c) : svI (svs sv n R) (msv S R n) (svn n) c := by
  intro i hi
  unfold svs msv
  unfold svn at hi
  by_cases q : n < 6
  · rw [if_pos q] at hi ⊢
    rw [if_neg (show ¬ n = 6 by omega)]
    by_cases w : i = n
    · subst w
      show gd (if i = i then R else sv i) ∧ bud (if i = i then R else sv i) c ∧ ∀ k, k < 50 → (if i = i then R else sv i) k = ins S R (50 * i) 50 (50 * i + k)
      rw [if_pos rfl]
      refine ⟨hg, hb, fun k hk => ?_⟩
      rw [ins, if_pos (by omega), show 50 * i + k - 50 * i = k by omega]
    · show gd (if i = n then R else sv i) ∧ bud (if i = n then R else sv i) c ∧ ∀ k, k < 50 → (if i = n then R else sv i) k = ins S R (50 * n) 50 (50 * i + k)
      rw [if_neg w]
      obtain ⟨a, b, d⟩ := h i (by omega)
      refine ⟨a, b, fun k hk => ?_⟩
      rw [ins, if_neg (by omega)]
      exact d k hk
  · rw [if_neg q] at hi ⊢
    have hn6 : n = 6 := by omega
    rw [if_pos hn6]
    by_cases w : i < 5
    · show gd (if i < 5 then sv (i + 1) else R) ∧ bud (if i < 5 then sv (i + 1) else R) c ∧ ∀ k, k < 50 → (if i < 5 then sv (i + 1) else R) k = ins (sft S 250) R (50 * 5) 50 (50 * i + k)
      rw [if_pos w]
      obtain ⟨a, b, d⟩ := h (i + 1) (by omega)
      refine ⟨a, b, fun k hk => ?_⟩
      rw [ins, if_neg (by omega), sft, if_pos (by omega), d k hk]
      congr 1; omega
    · show gd (if i < 5 then sv (i + 1) else R) ∧ bud (if i < 5 then sv (i + 1) else R) c ∧ ∀ k, k < 50 → (if i < 5 then sv (i + 1) else R) k = ins (sft S 250) R (50 * 5) 50 (50 * i + k)
      rw [if_neg w]
      refine ⟨hg, hb, fun k hk => ?_⟩
      rw [ins, if_pos (by omega), show 50 * i + k - 50 * 5 = k by omega]
def ksI (kp : Int32) (RS N : Nat → Int32) (c : Nat) : Prop := ¬ kp = 0 → N = RS ∧ gd RS ∧ bud RS c
theorem ksI.le {kp : Int32} {RS N : Nat → Int32} {c d : Nat} (h : ksI kp RS N c) (hd : c ≤ d) : ksI kp RS N d := fun q => ⟨(h q).1, (h q).2.1, bud_le (h q).2.2 hd⟩
/-- the two objects and the row of one, ahead of call c -/
def LInv (D : va_G) (G : Nat → ClassId) (N o c : Nat) (H : Heap) : Prop := ∃ (R RS N9 S F : Nat → Int32) (sv : Nat → Nat → Int32) (n len : Nat) (kp th : Int32) (oo : Nat → Int64) (m9 : Nat),
  DW D G (al N o) R RS kp sv n F len H ∧ MM D G (mu N) R S N9 F (nI n) kp th (nI len) H ∧ va_at D vwCl (o, .inl (G 4, 1, .inr (.inl oo))) H ∧ gd R ∧ bud R (99 * m9) ∧ n ≤ 6 ∧ len ≤ 60 ∧ svI sv S n (99 * m9) ∧ ksI kp RS N9 (99 * m9) ∧ m9 + len ≤ c
theorem f2d_n {x : UInt32} (h : okF x) : vf_n64 (FP.f2d x) ∧ Op.cmpValue (FP.dcmp (FP.f2d x) (FP.f2d x)) .l = 0 := by
  have key : ∃ (c : Nat) (q : Int), FP.Core.decode FP.Core.b64 (FP.f2d x).toNat = .fin false c q ∧ vf_n64 (FP.f2d x) := by
    rcases h with rfl | ⟨e, t, h1, h2, ht, rfl⟩
    · exact ⟨0, -1074, by decide +kernel, by unfold vf_n64; decide +kernel⟩
    · have h9 := fp_rr1 (f := FP.Core.b64) (p := 52) rfl (s := false) (t := 8388608 + t) (j := 29) (e := (e : Int) - 150) (q := ((e + 896 : Nat) : Int) - 1075) (by omega) (by omega) (by omega) (by rw [b64_q]; omega) (by rw [b64_x]; omega)
      have hx : (8388608 + t) * 2 ^ 29 = 4503599627370496 + t * 2 ^ 29 := by omega
      have hf : FP.f2d (fE e t) = dE (e + 896) (t * 2 ^ 29) := by
        have hnn : ¬ FP.Core.fIsNaN (fE e t) = true := by
          unfold FP.Core.fIsNaN FP.Core.isNaN
          rw [fE_dec h1 h2 ht]
          simp
        unfold FP.f2d
        rw [if_neg hnn]
        unfold FP.Core.f2d FP.Core.convert
        rw [fE_dec h1 h2 ht]
        unfold FP.Core.round
        simp only []
        rw [h9, hx]
        exact dE_enc (by omega) rfl
      rw [hf]
      exact ⟨_, _, dE_dec (by omega) (by omega) (by omega), dE_n (by omega) (by omega)⟩
  obtain ⟨c, q, h1, h2⟩ := key
  refine ⟨h2, ?_⟩
  have e : FP.dcmp (FP.f2d x) (FP.f2d x) = some .eq := by
    show FP.Core.order _ _ = _
    rw [h1]
    exact ord_self
  rw [e]; rfl
theorem nI_i4 {i : Nat} (hi : i ≤ 2048) {L : Nat} (hL : L ≤ 2048) : (nI L - 4 < nI i) ↔ L < i + 4 := by
  have e : (nI L - 4).toInt = (L : Int) - 4 := pk_sub_toInt (a := L) (b := 4) (by omega) (by omega)
  rw [Int32.lt_iff_toInt_lt, e, nI_toInt (by omega)]
  omega
theorem mu_ge {N z q : Nat} (hz : z ≤ N) (h : A6 (mu N) q) : z ≤ q := by
  obtain ⟨k, hk, e⟩ := h
  rw [mu_eq] at e
  omega
theorem al_ge {N o z q : Nat} (hz : z ≤ N) (ho : N + 114 ≤ o) (h : AL (al N o) q) : z ≤ q := by
  rcases h with ⟨k, hk, e⟩ | e
  · have := al_rng (k := k) ho (by omega); omega
  · have : q = o := e
    omega
theorem cUndo_n {n : Nat} (h : cUndo n = 0) : 0 < n := by
  unfold cUndo at h
  rcases Nat.eq_zero_or_pos n with q | q
  · rw [if_pos q] at h; exact absurd h (by decide)
  · exact q
theorem cBack_k {kp : Int32} (h : cBack kp = 0) : ¬ kp = 0 := fun q => by
  unfold cBack at h
  rw [if_pos q] at h; exact absurd h (by decide)
theorem cApp_l {c : Int32} {len : Nat} (h : cApp c len = 0) : len < 60 := by
  obtain ⟨-, h2⟩ := nR_0 (by decide) h
  by_cases q : len < 60
  · exact q
  · rw [if_neg q] at h2; exact absurd h2 (by decide)
/-- the law's start, as its cases take it -/
def LC (p : Program) (l : Launch) (s : State) (m : MethodId) (b : Nat) (c : Code) (D : va_G) (G : Nat → ClassId) (N o L : Nat) (xs : Nat → Int32) : Prop :=
  p.tables.exec = Jvm.exec ∧ c.code = cL_law ∧ c.maxLocals = 9 ∧ s.vm.findClass RL = some m.cls ∧ (∀ w ∈ wsL_law, w.before #[Value.ref b] s = true) ∧ va_K D vwCl (tyS G) s ∧ NW s ∧ EWt s ∧ EWh (fun q => s.heap.size ≤ q) s s.heap ∧ LCt s ∧ l.stackTraces = false ∧ s.heap.size ≤ N ∧ N + 114 ≤ o ∧ va_X b L xs s s.heap ∧ b < s.heap.size ∧ L ≤ 2048
