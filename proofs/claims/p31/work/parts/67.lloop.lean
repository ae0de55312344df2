set_option maxHeartbeats 1600000 in
set_option maxRecDepth 100000 in
/-- the law's loop: 44 turns -/
theorem law_loop {p : Program} {l : Launch} {e : Env} {s : State} {m : MethodId} {below : List Frame} {meth : Method} {c : Code} {D : va_G} {G : Nat → ClassId} {b L : Nat} {xs : Nat → Int32} {Q : State → Prop} (hx : p.tables.exec = Jvm.exec) (hb : c.code = cL_law) (hml : c.maxLocals = 12) (hown : s.vm.findClass RL = some m.cls) (hts : ∀ w ∈ wsL_law, w.before #[Value.ref b] s = true) (hK : va_K D vwCl (tyS G) s) (hN : NW s) (hZ : ST2 (fun q => s.heap.size ≤ q) s s.heap) (hX : va_X b L xs s s.heap) (hbl : b < s.heap.size) (hL9 : L ≤ 260) (α : Nat → Nat) (hα : inj 115 α) (hrg : ∀ k, k < 115 → s.heap.size ≤ α k) (fin : ∀ (H : Heap) (locs : List Loc) (ls : Array Slot), va_S (fun q => s.heap.size ≤ q) s.heap H locs → W p l e room_1 s m #[Value.ref b] below meth c H locs 111 702 Q (F0 m 316 ls [.int 1])) (P0 : Nat → Int32) (H : Heap) (locs : List Loc) (ls : Array Slot) (hS : va_S (fun q => s.heap.size ≤ q) s.heap H locs) (hO : OB D G α r0 H) (hL : LB D G (lm α) r0 P0 H) (hL2 : LB D G (ln α) (fun _ => 0) P0 H) (hl : lv_has ls 12 [(0, .ref b), (1, .ref (α 0)), (2, .ref (lm α 0)), (3, .ref (lm α 1)), (4, .ref (lm α 2)), (5, .ref (lm α 3)), (6, .ref (ln α 0)), (7, .ref (ln α 1)), (8, .ref (ln α 2)), (9, .int 1), (10, .int 0)]) : W p l e room_1 s m #[Value.ref b] below meth c H locs 111 702 Q (F0 m 161 ls []) := by
  have hF : CallFix p m c cL_law 12 s #[Value.ref b] wsL_law RL := ⟨hx, hb, hml, hown, hts⟩
  have loop161 : ∀ (m9 : Nat) (t : Nat) (R : Nat → Int32) (P : Nat → Int32) (R2 : Nat → Int32) (Hh : Heap) (_ : t + m9 = 44) (_ : gw R) (_ : bud R (60 * t)) (_ : OB D G α R Hh) (_ : LB D G (lm α) R P Hh) (_ : LB D G (ln α) R2 P Hh) (locs : List Loc) (_ : va_S (fun q => s.heap.size ≤ q) s.heap Hh locs) (ls : Array Slot) (_ : lv_has ls 12 [(0, .ref b), (1, .ref (α 0)), (2, .ref (lm α 0)), (3, .ref (lm α 1)), (4, .ref (lm α 2)), (5, .ref (lm α 3)), (6, .ref (ln α 0)), (7, .ref (ln α 1)), (8, .ref (ln α 2)), (9, .int 1), (10, .int (nI t))]), W p l e room_1 s m #[Value.ref b] below meth c Hh locs 111 702 Q (F0 m 161 ls []) := by
    intro m9
    induction m9 with
    | zero =>
      intro t R P R2 Hh hin hgw hbu hO hL hL2 locs hS ls hl
      refine lv_iload hx hb dL_law_161 (lv_at hl 10 rfl) ?_
      refine lv_bipush (v := 44) hx hb dL_law_163 (by decide) ?_
      refine lv_icmp_ge (tgt := 314) hx hb dL_law_165 (by decide) (fun c1 => ?_) (fun c1 => absurd (nI_le (a := 44) (b := t) (by omega) (by omega)) c1)
      refine lv_iload hx hb dL_law_314 (lv_at hl 9 rfl) ?_
      exact fin _ _ _ hS
    | succ m9 ih161 =>
      intro t R P R2 Hh hin hgw hbu hO hL hL2 locs hS ls hl
      refine lv_iload hx hb dL_law_161 (lv_at hl 10 rfl) ?_
      refine lv_bipush (v := 44) hx hb dL_law_163 (by decide) ?_
      refine lv_icmp_ge (tgt := 314) hx hb dL_law_165 (by decide) (fun c2 => absurd c2 (nI_ge (a := t) (b := 44) (by omega) (by omega))) (fun c2 => ?_)
      refine lv_iload hx hb dL_law_168 (lv_at hl 9 rfl) ?_
      refine lv_if_eq (tgt := 314) hx hb dL_law_170 (by decide) (fun c3 => absurd c3 (by decide)) (fun c3 => ?_)
      refine lv_aload_n hx hb dL_law_173 rfl (lv_at hl 0 rfl) ?_
      refine lv_iload hx hb dL_law_174 (lv_at hl 10 rfl) ?_
      refine dps_Si hF hK hN (hX.kept (hS.2.1 b hbl (Nat.not_le.mpr hbl))) (c_L_cell l D G b L xs t _ (by omega) (by omega)) (va_cwS 2 hts gL_law_L_cell rfl rfl rfl (by decide +kernel) ⟨Nat.le_of_ble_eq_true rfl, Nat.le_of_ble_eq_true rfl⟩) hS (fun q h => h.elim) [] rfl rfl hl.1 (Nat.le_of_ble_eq_true rfl) dL_law_176 ⟨Nat.le_of_ble_eq_true rfl, Nat.le_of_ble_eq_true rfl⟩ (fun x H1 locs hp hzH1 hkH1 hS => ?_)
      obtain rfl := hp
      refine lv_istore (lv' := [(11, .int x), (0, .ref b), (1, .ref (α 0)), (2, .ref (lm α 0)), (3, .ref (lm α 1)), (4, .ref (lm α 2)), (5, .ref (lm α 3)), (6, .ref (ln α 0)), (7, .ref (ln α 1)), (8, .ref (ln α 2)), (9, .int 1), (10, .int (nI t))]) hx hb dL_law_179 hl (by decide) rfl (fun ls hl => ?_)
      refine lv_aload_n hx hb dL_law_181 rfl (lv_at hl 2 rfl) ?_
      refine lv_aload_n hx hb dL_law_182 rfl (lv_at hl 3 rfl) ?_
      refine lv_aload_n hx hb dL_law_183 rfl (lv_at hl 4 rfl) ?_
      refine lv_aload hx hb dL_law_184 (lv_at hl 5 rfl) ?_
      refine lv_aload hx hb dL_law_186 (lv_at hl 6 rfl) ?_
      refine lv_iload hx hb dL_law_188 (lv_at hl 11 rfl) ?_
      refine lv_iconst (v := 4) hx hb dL_law_190 (by decide) ?_
      refine lv_icmp_ge (tgt := 198) hx hb dL_law_191 (by decide) (fun c4 => ?_) (fun c4 => ?_)
      · refine lv_iload hx hb dL_law_198 (lv_at hl 11 rfl) ?_
        refine lv_bipush (v := 10) hx hb dL_law_200 (by decide) ?_
        refine lv_icmp_ge (tgt := 210) hx hb dL_law_202 (by decide) (fun c5 => ?_) (fun c5 => ?_)
        · refine lv_iload hx hb dL_law_210 (lv_at hl 0 rfl) ?_
          refine lv_bipush (v := 18) hx hb dL_law_212 (by decide) ?_
          refine lv_ishr hx hb dL_law_214 ?_
          refine lv_bipush (v := 16) hx hb dL_law_215 (by decide) ?_
          refine dp_Si hF hK hN (c_L_low l D G (x >>> (18 &&& 31)) 16 _ (by decide) (by decide)) (va_cwS 2 hts gL_law_L_low rfl rfl rfl (by decide +kernel) ⟨Nat.le_of_ble_eq_true rfl, Nat.le_of_ble_eq_true rfl⟩) hS nA_i [.ref (lm α 3), .ref (lm α 2), .ref (lm α 1), .ref (lm α 0), .ref (α 0)] rfl rfl hl.1 (Nat.le_of_ble_eq_true rfl) dL_law_217 ⟨Nat.le_of_ble_eq_true rfl, Nat.le_of_ble_eq_true rfl⟩ (fun rH2 H2 locs hp hzH2 hkH2 hS => ?_)
          obtain ⟨rfl, rfl⟩ := hp
          refine lv_iload hx hb dL_law_220 (lv_at hl 0 rfl) ?_
          refine dpe_Si hF hK hN hZ (c_L_acts l D G α R P (nI (low (x >>> (18 &&& 31)) 16)) x (60 * t) _ hα hO hL hgw.1 hgw.2.1 hgw.2.2 hbu) (va_cwS 7 hts gL_law_L_acts rfl rfl rfl (by decide +kernel) ⟨Nat.le_of_ble_eq_true rfl, Nat.le_of_ble_eq_true rfl⟩) hS (at_ge hrg) [] rfl rfl hl.1 (Nat.le_of_ble_eq_true rfl) dL_law_222 ⟨Nat.le_of_ble_eq_true rfl, Nat.le_of_ble_eq_true rfl⟩ (fun rH3 H3 locs hp hzH3 hkH3 hS => ?_)
          obtain ⟨rfl, R1, P1, hgw1, hbu1, hO, hL⟩ := hp
          replace hL2 := hL2.mixT hα hL hkH3
          refine lv_if_eq (tgt := 305) hx hb dL_law_225 (by decide) (fun c6 => absurd c6 (by decide)) (fun c6 => ?_)
          refine lv_aload_n hx hb dL_law_228 rfl (lv_at hl 2 rfl) ?_
          refine lv_aload_n hx hb dL_law_229 rfl (lv_at hl 3 rfl) ?_
          refine lv_aload_n hx hb dL_law_230 rfl (lv_at hl 4 rfl) ?_
          refine lv_aload hx hb dL_law_231 (lv_at hl 5 rfl) ?_
          refine lv_aload hx hb dL_law_233 (lv_at hl 6 rfl) ?_
          refine dp_Si hF hK hN (c_L_isTold l D G α R1 P1 (60 * t + 60) _ hα hO hL hgw1.1 hgw1.2.1 hgw1.2.2 hbu1 (by omega)) (va_cwS 5 hts gL_law_L_isTold rfl rfl rfl (by decide +kernel) ⟨Nat.le_of_ble_eq_true rfl, Nat.le_of_ble_eq_true rfl⟩) hS (at_ge hrg) [] rfl rfl hl.1 (Nat.le_of_ble_eq_true rfl) dL_law_235 ⟨Nat.le_of_ble_eq_true rfl, Nat.le_of_ble_eq_true rfl⟩ (fun rH4 H4 locs hp hzH4 hkH4 hS => ?_)
          obtain ⟨rfl, hO, hL⟩ := hp
          replace hL2 := hL2.mixT hα hL hkH4
          refine lv_if_eq (tgt := 305) hx hb dL_law_238 (by decide) (fun c7 => absurd c7 (by decide)) (fun c7 => ?_)
          refine lv_iload hx hb dL_law_241 (lv_at hl 11 rfl) ?_
          refine lv_iconst (v := 3) hx hb dL_law_243 (by decide) ?_
          refine lv_irem hx hb dL_law_244 (by decide) ?_
          refine lv_iconst (v := 2) hx hb dL_law_245 (by decide) ?_
          refine lv_icmp_ne (tgt := 272) hx hb dL_law_246 (by decide) (fun c8 => ?_) (fun c8 => ?_)
          · refine lv_iload hx hb dL_law_272 (lv_at hl 11 rfl) ?_
            refine lv_bipush (v := 6) hx hb dL_law_274 (by decide) ?_
            refine lv_irem hx hb dL_law_276 (by decide) ?_
            refine lv_iconst (v := 5) hx hb dL_law_277 (by decide) ?_
            refine lv_icmp_ne (tgt := 301) hx hb dL_law_278 (by decide) (fun c9 => ?_) (fun c9 => ?_)
            · refine lv_iconst (v := 1) hx hb dL_law_301 (by decide) ?_
              refine lv_goto (tgt := 306) hx hb dL_law_302 (by decide) ?_
              refine lv_istore (lv' := [(9, .int 1), (11, .int x), (0, .ref b), (1, .ref (α 0)), (2, .ref (lm α 0)), (3, .ref (lm α 1)), (4, .ref (lm α 2)), (5, .ref (lm α 3)), (6, .ref (ln α 0)), (7, .ref (ln α 1)), (8, .ref (ln α 2)), (10, .int (nI t))]) hx hb dL_law_306 hl (by decide) rfl (fun ls hl => ?_)
              refine lv_iinc (v := nI (t + 1)) (lv' := [(10, .int (nI (t + 1))), (9, .int 1), (11, .int x), (0, .ref b), (1, .ref (α 0)), (2, .ref (lm α 0)), (3, .ref (lm α 1)), (4, .ref (lm α 2)), (5, .ref (lm α 3)), (6, .ref (ln α 0)), (7, .ref (ln α 1)), (8, .ref (ln α 2))]) hx hb dL_law_308 hl (k := 11) rfl (nI_1 t) (by decide) rfl (fun ls hl => ?_)
              refine lv_goto (tgt := 161) hx hb dL_law_311 (by decide) ?_
              exact ih161 (t + 1) R1 ((pwv R1)) R2 H4 (by omega) hgw1 (bud_le hbu1 (by omega)) hO hL hL2 _ hS _ (lv_sub hl [3, 4, 5, 6, 7, 8, 9, 10, 11, 1, 0] rfl)
            refine lv_aload_n hx hb dL_law_281 rfl (lv_at hl 2 rfl) ?_
            refine lv_aload_n hx hb dL_law_282 rfl (lv_at hl 3 rfl) ?_
            refine lv_aload_n hx hb dL_law_283 rfl (lv_at hl 4 rfl) ?_
            refine lv_aload hx hb dL_law_284 (lv_at hl 6 rfl) ?_
            refine lv_iload hx hb dL_law_286 (lv_at hl 0 rfl) ?_
            refine lv_bipush (v := 7) hx hb dL_law_288 (by decide) ?_
            refine lv_ishr hx hb dL_law_290 ?_
            refine lv_iconst (v := 3) hx hb dL_law_291 (by decide) ?_
            refine dp_Si hF hK hN (c_L_low l D G (x >>> (7 &&& 31)) 3 _ (by decide) (by decide)) (va_cwS 2 hts gL_law_L_low rfl rfl rfl (by decide +kernel) ⟨Nat.le_of_ble_eq_true rfl, Nat.le_of_ble_eq_true rfl⟩) hS nA_i [.ref (lm α 3), .ref (lm α 1), .ref (lm α 0), .ref (α 0)] rfl rfl hl.1 (Nat.le_of_ble_eq_true rfl) dL_law_292 ⟨Nat.le_of_ble_eq_true rfl, Nat.le_of_ble_eq_true rfl⟩ (fun rH5 H5 locs hp hzH5 hkH5 hS => ?_)
            obtain ⟨rfl, rfl⟩ := hp
            refine dp_Si hF hK hN (c_L_isFair l D G α R1 (pwv R1) (low (x >>> (7 &&& 31)) 3) _ hα hO hL hgw1.1 hgw1.2.1 (low_lt (by decide))) (va_cwS 5 hts gL_law_L_isFair rfl rfl rfl (by decide +kernel) ⟨Nat.le_of_ble_eq_true rfl, Nat.le_of_ble_eq_true rfl⟩) hS (at_ge hrg) [] rfl rfl hl.1 (Nat.le_of_ble_eq_true rfl) dL_law_295 ⟨Nat.le_of_ble_eq_true rfl, Nat.le_of_ble_eq_true rfl⟩ (fun rH6 H6 locs hp hzH6 hkH6 hS => ?_)
            obtain ⟨rfl, hO, P4, hL⟩ := hp
            replace hL2 := hL2.mixT hα hL hkH6
            refine lv_if_eq (tgt := 305) hx hb dL_law_298 (by decide) (fun c10 => absurd c10 (by decide)) (fun c10 => ?_)
            refine lv_iconst (v := 1) hx hb dL_law_301 (by decide) ?_
            refine lv_goto (tgt := 306) hx hb dL_law_302 (by decide) ?_
            refine lv_istore (lv' := [(9, .int 1), (11, .int x), (0, .ref b), (1, .ref (α 0)), (2, .ref (lm α 0)), (3, .ref (lm α 1)), (4, .ref (lm α 2)), (5, .ref (lm α 3)), (6, .ref (ln α 0)), (7, .ref (ln α 1)), (8, .ref (ln α 2)), (10, .int (nI t))]) hx hb dL_law_306 hl (by decide) rfl (fun ls hl => ?_)
            refine lv_iinc (v := nI (t + 1)) (lv' := [(10, .int (nI (t + 1))), (9, .int 1), (11, .int x), (0, .ref b), (1, .ref (α 0)), (2, .ref (lm α 0)), (3, .ref (lm α 1)), (4, .ref (lm α 2)), (5, .ref (lm α 3)), (6, .ref (ln α 0)), (7, .ref (ln α 1)), (8, .ref (ln α 2))]) hx hb dL_law_308 hl (k := 11) rfl (nI_1 t) (by decide) rfl (fun ls hl => ?_)
            refine lv_goto (tgt := 161) hx hb dL_law_311 (by decide) ?_
            exact ih161 (t + 1) R1 P4 R2 H6 (by omega) hgw1 (bud_le hbu1 (by omega)) hO hL hL2 _ hS _ (lv_sub hl [3, 4, 5, 6, 7, 8, 9, 10, 11, 1, 0] rfl)
          refine lv_aload_n hx hb dL_law_249 rfl (lv_at hl 2 rfl) ?_
          refine lv_aload_n hx hb dL_law_250 rfl (lv_at hl 3 rfl) ?_
          refine lv_aload_n hx hb dL_law_251 rfl (lv_at hl 4 rfl) ?_
          refine lv_aload hx hb dL_law_252 (lv_at hl 5 rfl) ?_
          refine lv_aload hx hb dL_law_254 (lv_at hl 6 rfl) ?_
          refine lv_aload hx hb dL_law_256 (lv_at hl 7 rfl) ?_
          refine lv_aload hx hb dL_law_258 (lv_at hl 8 rfl) ?_
          refine lv_aload hx hb dL_law_260 (lv_at hl 9 rfl) ?_
          refine lv_iload hx hb dL_law_262 (lv_at hl 0 rfl) ?_
          refine lv_iconst (v := 5) hx hb dL_law_264 (by decide) ?_
          refine lv_ishr hx hb dL_law_265 ?_
          refine dp_Si hF hK hN (c_L_would l D G α R1 (pwv R1) R2 (x >>> (5 &&& 31)) _ hα hO hL hgw1.1 hgw1.2.1 hL2) (va_cwS 9 hts gL_law_L_would rfl rfl rfl (by decide +kernel) ⟨Nat.le_of_ble_eq_true rfl, Nat.le_of_ble_eq_true rfl⟩) hS (au_ge hrg) [] rfl rfl hl.1 (Nat.le_of_ble_eq_true rfl) dL_law_266 ⟨Nat.le_of_ble_eq_true rfl, Nat.le_of_ble_eq_true rfl⟩ (fun rH7 H7 locs hp hzH7 hkH7 hS => ?_)
          obtain ⟨rfl, hO, P3, R3, hL, hL2⟩ := hp
          refine lv_if_eq (tgt := 305) hx hb dL_law_269 (by decide) (fun c11 => absurd c11 (by decide)) (fun c11 => ?_)
          refine lv_iload hx hb dL_law_272 (lv_at hl 11 rfl) ?_
          refine lv_bipush (v := 6) hx hb dL_law_274 (by decide) ?_
          refine lv_irem hx hb dL_law_276 (by decide) ?_
          refine lv_iconst (v := 5) hx hb dL_law_277 (by decide) ?_
          refine lv_icmp_ne (tgt := 301) hx hb dL_law_278 (by decide) (fun c12 => ?_) (fun c12 => ?_)
          · refine lv_iconst (v := 1) hx hb dL_law_301 (by decide) ?_
            refine lv_goto (tgt := 306) hx hb dL_law_302 (by decide) ?_
            refine lv_istore (lv' := [(9, .int 1), (11, .int x), (0, .ref b), (1, .ref (α 0)), (2, .ref (lm α 0)), (3, .ref (lm α 1)), (4, .ref (lm α 2)), (5, .ref (lm α 3)), (6, .ref (ln α 0)), (7, .ref (ln α 1)), (8, .ref (ln α 2)), (10, .int (nI t))]) hx hb dL_law_306 hl (by decide) rfl (fun ls hl => ?_)
            refine lv_iinc (v := nI (t + 1)) (lv' := [(10, .int (nI (t + 1))), (9, .int 1), (11, .int x), (0, .ref b), (1, .ref (α 0)), (2, .ref (lm α 0)), (3, .ref (lm α 1)), (4, .ref (lm α 2)), (5, .ref (lm α 3)), (6, .ref (ln α 0)), (7, .ref (ln α 1)), (8, .ref (ln α 2))]) hx hb dL_law_308 hl (k := 11) rfl (nI_1 t) (by decide) rfl (fun ls hl => ?_)
            refine lv_goto (tgt := 161) hx hb dL_law_311 (by decide) ?_
            exact ih161 (t + 1) R1 P3 R3 H7 (by omega) hgw1 (bud_le hbu1 (by omega)) hO hL hL2 _ hS _ (lv_sub hl [3, 4, 5, 6, 7, 8, 9, 10, 11, 1, 0] rfl)
          refine lv_aload_n hx hb dL_law_281 rfl (lv_at hl 2 rfl) ?_
          refine lv_aload_n hx hb dL_law_282 rfl (lv_at hl 3 rfl) ?_
          refine lv_aload_n hx hb dL_law_283 rfl (lv_at hl 4 rfl) ?_
          refine lv_aload hx hb dL_law_284 (lv_at hl 6 rfl) ?_
          refine lv_iload hx hb dL_law_286 (lv_at hl 0 rfl) ?_
          refine lv_bipush (v := 7) hx hb dL_law_288 (by decide) ?_
          refine lv_ishr hx hb dL_law_290 ?_
          refine lv_iconst (v := 3) hx hb dL_law_291 (by decide) ?_
          refine dp_Si hF hK hN (c_L_low l D G (x >>> (7 &&& 31)) 3 _ (by decide) (by decide)) (va_cwS 2 hts gL_law_L_low rfl rfl rfl (by decide +kernel) ⟨Nat.le_of_ble_eq_true rfl, Nat.le_of_ble_eq_true rfl⟩) hS nA_i [.ref (lm α 3), .ref (lm α 1), .ref (lm α 0), .ref (α 0)] rfl rfl hl.1 (Nat.le_of_ble_eq_true rfl) dL_law_292 ⟨Nat.le_of_ble_eq_true rfl, Nat.le_of_ble_eq_true rfl⟩ (fun rH8 H8 locs hp hzH8 hkH8 hS => ?_)
          obtain ⟨rfl, rfl⟩ := hp
          refine dp_Si hF hK hN (c_L_isFair l D G α R1 P3 (low (x >>> (7 &&& 31)) 3) _ hα hO hL hgw1.1 hgw1.2.1 (low_lt (by decide))) (va_cwS 5 hts gL_law_L_isFair rfl rfl rfl (by decide +kernel) ⟨Nat.le_of_ble_eq_true rfl, Nat.le_of_ble_eq_true rfl⟩) hS (at_ge hrg) [] rfl rfl hl.1 (Nat.le_of_ble_eq_true rfl) dL_law_295 ⟨Nat.le_of_ble_eq_true rfl, Nat.le_of_ble_eq_true rfl⟩ (fun rH9 H9 locs hp hzH9 hkH9 hS => ?_)
          obtain ⟨rfl, hO, P4, hL⟩ := hp
          replace hL2 := hL2.mixT hα hL hkH9
          refine lv_if_eq (tgt := 305) hx hb dL_law_298 (by decide) (fun c13 => absurd c13 (by decide)) (fun c13 => ?_)
          refine lv_iconst (v := 1) hx hb dL_law_301 (by decide) ?_
          refine lv_goto (tgt := 306) hx hb dL_law_302 (by decide) ?_
          refine lv_istore (lv' := [(9, .int 1), (11, .int x), (0, .ref b), (1, .ref (α 0)), (2, .ref (lm α 0)), (3, .ref (lm α 1)), (4, .ref (lm α 2)), (5, .ref (lm α 3)), (6, .ref (ln α 0)), (7, .ref (ln α 1)), (8, .ref (ln α 2)), (10, .int (nI t))]) hx hb dL_law_306 hl (by decide) rfl (fun ls hl => ?_)
          refine lv_iinc (v := nI (t + 1)) (lv' := [(10, .int (nI (t + 1))), (9, .int 1), (11, .int x), (0, .ref b), (1, .ref (α 0)), (2, .ref (lm α 0)), (3, .ref (lm α 1)), (4, .ref (lm α 2)), (5, .ref (lm α 3)), (6, .ref (ln α 0)), (7, .ref (ln α 1)), (8, .ref (ln α 2))]) hx hb dL_law_308 hl (k := 11) rfl (nI_1 t) (by decide) rfl (fun ls hl => ?_)
          refine lv_goto (tgt := 161) hx hb dL_law_311 (by decide) ?_
          exact ih161 (t + 1) R1 P4 R3 H9 (by omega) hgw1 (bud_le hbu1 (by omega)) hO hL hL2 _ hS _ (lv_sub hl [3, 4, 5, 6, 7, 8, 9, 10, 11, 1, 0] rfl)
        refine lv_bipush (v := 7) hx hb dL_law_205 (by decide) ?_
        refine lv_goto (tgt := 220) hx hb dL_law_207 (by decide) ?_
        refine lv_iload hx hb dL_law_220 (lv_at hl 0 rfl) ?_
        refine dpe_Si hF hK hN hZ (c_L_acts l D G α R P 7 x (60 * t) _ hα hO hL hgw.1 hgw.2.1 hgw.2.2 hbu) (va_cwS 7 hts gL_law_L_acts rfl rfl rfl (by decide +kernel) ⟨Nat.le_of_ble_eq_true rfl, Nat.le_of_ble_eq_true rfl⟩) hS (at_ge hrg) [] rfl rfl hl.1 (Nat.le_of_ble_eq_true rfl) dL_law_222 ⟨Nat.le_of_ble_eq_true rfl, Nat.le_of_ble_eq_true rfl⟩ (fun rH10 H10 locs hp hzH10 hkH10 hS => ?_)
        obtain ⟨rfl, R1, P1, hgw1, hbu1, hO, hL⟩ := hp
        replace hL2 := hL2.mixT hα hL hkH10
        refine lv_if_eq (tgt := 305) hx hb dL_law_225 (by decide) (fun c14 => absurd c14 (by decide)) (fun c14 => ?_)
        refine lv_aload_n hx hb dL_law_228 rfl (lv_at hl 2 rfl) ?_
        refine lv_aload_n hx hb dL_law_229 rfl (lv_at hl 3 rfl) ?_
        refine lv_aload_n hx hb dL_law_230 rfl (lv_at hl 4 rfl) ?_
        refine lv_aload hx hb dL_law_231 (lv_at hl 5 rfl) ?_
        refine lv_aload hx hb dL_law_233 (lv_at hl 6 rfl) ?_
        refine dp_Si hF hK hN (c_L_isTold l D G α R1 P1 (60 * t + 60) _ hα hO hL hgw1.1 hgw1.2.1 hgw1.2.2 hbu1 (by omega)) (va_cwS 5 hts gL_law_L_isTold rfl rfl rfl (by decide +kernel) ⟨Nat.le_of_ble_eq_true rfl, Nat.le_of_ble_eq_true rfl⟩) hS (at_ge hrg) [] rfl rfl hl.1 (Nat.le_of_ble_eq_true rfl) dL_law_235 ⟨Nat.le_of_ble_eq_true rfl, Nat.le_of_ble_eq_true rfl⟩ (fun rH11 H11 locs hp hzH11 hkH11 hS => ?_)
        obtain ⟨rfl, hO, hL⟩ := hp
        replace hL2 := hL2.mixT hα hL hkH11
        refine lv_if_eq (tgt := 305) hx hb dL_law_238 (by decide) (fun c15 => absurd c15 (by decide)) (fun c15 => ?_)
        refine lv_iload hx hb dL_law_241 (lv_at hl 11 rfl) ?_
        refine lv_iconst (v := 3) hx hb dL_law_243 (by decide) ?_
        refine lv_irem hx hb dL_law_244 (by decide) ?_
        refine lv_iconst (v := 2) hx hb dL_law_245 (by decide) ?_
        refine lv_icmp_ne (tgt := 272) hx hb dL_law_246 (by decide) (fun c16 => ?_) (fun c16 => ?_)
        · refine lv_iload hx hb dL_law_272 (lv_at hl 11 rfl) ?_
          refine lv_bipush (v := 6) hx hb dL_law_274 (by decide) ?_
          refine lv_irem hx hb dL_law_276 (by decide) ?_
          refine lv_iconst (v := 5) hx hb dL_law_277 (by decide) ?_
          refine lv_icmp_ne (tgt := 301) hx hb dL_law_278 (by decide) (fun c17 => ?_) (fun c17 => ?_)
          · refine lv_iconst (v := 1) hx hb dL_law_301 (by decide) ?_
            refine lv_goto (tgt := 306) hx hb dL_law_302 (by decide) ?_
            refine lv_istore (lv' := [(9, .int 1), (11, .int x), (0, .ref b), (1, .ref (α 0)), (2, .ref (lm α 0)), (3, .ref (lm α 1)), (4, .ref (lm α 2)), (5, .ref (lm α 3)), (6, .ref (ln α 0)), (7, .ref (ln α 1)), (8, .ref (ln α 2)), (10, .int (nI t))]) hx hb dL_law_306 hl (by decide) rfl (fun ls hl => ?_)
            refine lv_iinc (v := nI (t + 1)) (lv' := [(10, .int (nI (t + 1))), (9, .int 1), (11, .int x), (0, .ref b), (1, .ref (α 0)), (2, .ref (lm α 0)), (3, .ref (lm α 1)), (4, .ref (lm α 2)), (5, .ref (lm α 3)), (6, .ref (ln α 0)), (7, .ref (ln α 1)), (8, .ref (ln α 2))]) hx hb dL_law_308 hl (k := 11) rfl (nI_1 t) (by decide) rfl (fun ls hl => ?_)
            refine lv_goto (tgt := 161) hx hb dL_law_311 (by decide) ?_
            exact ih161 (t + 1) R1 ((pwv R1)) R2 H11 (by omega) hgw1 (bud_le hbu1 (by omega)) hO hL hL2 _ hS _ (lv_sub hl [3, 4, 5, 6, 7, 8, 9, 10, 11, 1, 0] rfl)
          refine lv_aload_n hx hb dL_law_281 rfl (lv_at hl 2 rfl) ?_
          refine lv_aload_n hx hb dL_law_282 rfl (lv_at hl 3 rfl) ?_
          refine lv_aload_n hx hb dL_law_283 rfl (lv_at hl 4 rfl) ?_
          refine lv_aload hx hb dL_law_284 (lv_at hl 6 rfl) ?_
          refine lv_iload hx hb dL_law_286 (lv_at hl 0 rfl) ?_
          refine lv_bipush (v := 7) hx hb dL_law_288 (by decide) ?_
          refine lv_ishr hx hb dL_law_290 ?_
          refine lv_iconst (v := 3) hx hb dL_law_291 (by decide) ?_
          refine dp_Si hF hK hN (c_L_low l D G (x >>> (7 &&& 31)) 3 _ (by decide) (by decide)) (va_cwS 2 hts gL_law_L_low rfl rfl rfl (by decide +kernel) ⟨Nat.le_of_ble_eq_true rfl, Nat.le_of_ble_eq_true rfl⟩) hS nA_i [.ref (lm α 3), .ref (lm α 1), .ref (lm α 0), .ref (α 0)] rfl rfl hl.1 (Nat.le_of_ble_eq_true rfl) dL_law_292 ⟨Nat.le_of_ble_eq_true rfl, Nat.le_of_ble_eq_true rfl⟩ (fun rH12 H12 locs hp hzH12 hkH12 hS => ?_)
          obtain ⟨rfl, rfl⟩ := hp
          refine dp_Si hF hK hN (c_L_isFair l D G α R1 (pwv R1) (low (x >>> (7 &&& 31)) 3) _ hα hO hL hgw1.1 hgw1.2.1 (low_lt (by decide))) (va_cwS 5 hts gL_law_L_isFair rfl rfl rfl (by decide +kernel) ⟨Nat.le_of_ble_eq_true rfl, Nat.le_of_ble_eq_true rfl⟩) hS (at_ge hrg) [] rfl rfl hl.1 (Nat.le_of_ble_eq_true rfl) dL_law_295 ⟨Nat.le_of_ble_eq_true rfl, Nat.le_of_ble_eq_true rfl⟩ (fun rH13 H13 locs hp hzH13 hkH13 hS => ?_)
          obtain ⟨rfl, hO, P4, hL⟩ := hp
          replace hL2 := hL2.mixT hα hL hkH13
          refine lv_if_eq (tgt := 305) hx hb dL_law_298 (by decide) (fun c18 => absurd c18 (by decide)) (fun c18 => ?_)
          refine lv_iconst (v := 1) hx hb dL_law_301 (by decide) ?_
          refine lv_goto (tgt := 306) hx hb dL_law_302 (by decide) ?_
          refine lv_istore (lv' := [(9, .int 1), (11, .int x), (0, .ref b), (1, .ref (α 0)), (2, .ref (lm α 0)), (3, .ref (lm α 1)), (4, .ref (lm α 2)), (5, .ref (lm α 3)), (6, .ref (ln α 0)), (7, .ref (ln α 1)), (8, .ref (ln α 2)), (10, .int (nI t))]) hx hb dL_law_306 hl (by decide) rfl (fun ls hl => ?_)
          refine lv_iinc (v := nI (t + 1)) (lv' := [(10, .int (nI (t + 1))), (9, .int 1), (11, .int x), (0, .ref b), (1, .ref (α 0)), (2, .ref (lm α 0)), (3, .ref (lm α 1)), (4, .ref (lm α 2)), (5, .ref (lm α 3)), (6, .ref (ln α 0)), (7, .ref (ln α 1)), (8, .ref (ln α 2))]) hx hb dL_law_308 hl (k := 11) rfl (nI_1 t) (by decide) rfl (fun ls hl => ?_)
          refine lv_goto (tgt := 161) hx hb dL_law_311 (by decide) ?_
          exact ih161 (t + 1) R1 P4 R2 H13 (by omega) hgw1 (bud_le hbu1 (by omega)) hO hL hL2 _ hS _ (lv_sub hl [3, 4, 5, 6, 7, 8, 9, 10, 11, 1, 0] rfl)
        refine lv_aload_n hx hb dL_law_249 rfl (lv_at hl 2 rfl) ?_
        refine lv_aload_n hx hb dL_law_250 rfl (lv_at hl 3 rfl) ?_
        refine lv_aload_n hx hb dL_law_251 rfl (lv_at hl 4 rfl) ?_
        refine lv_aload hx hb dL_law_252 (lv_at hl 5 rfl) ?_
        refine lv_aload hx hb dL_law_254 (lv_at hl 6 rfl) ?_
        refine lv_aload hx hb dL_law_256 (lv_at hl 7 rfl) ?_
        refine lv_aload hx hb dL_law_258 (lv_at hl 8 rfl) ?_
        refine lv_aload hx hb dL_law_260 (lv_at hl 9 rfl) ?_
        refine lv_iload hx hb dL_law_262 (lv_at hl 0 rfl) ?_
        refine lv_iconst (v := 5) hx hb dL_law_264 (by decide) ?_
        refine lv_ishr hx hb dL_law_265 ?_
        refine dp_Si hF hK hN (c_L_would l D G α R1 (pwv R1) R2 (x >>> (5 &&& 31)) _ hα hO hL hgw1.1 hgw1.2.1 hL2) (va_cwS 9 hts gL_law_L_would rfl rfl rfl (by decide +kernel) ⟨Nat.le_of_ble_eq_true rfl, Nat.le_of_ble_eq_true rfl⟩) hS (au_ge hrg) [] rfl rfl hl.1 (Nat.le_of_ble_eq_true rfl) dL_law_266 ⟨Nat.le_of_ble_eq_true rfl, Nat.le_of_ble_eq_true rfl⟩ (fun rH14 H14 locs hp hzH14 hkH14 hS => ?_)
        obtain ⟨rfl, hO, P3, R3, hL, hL2⟩ := hp
        refine lv_if_eq (tgt := 305) hx hb dL_law_269 (by decide) (fun c19 => absurd c19 (by decide)) (fun c19 => ?_)
        refine lv_iload hx hb dL_law_272 (lv_at hl 11 rfl) ?_
        refine lv_bipush (v := 6) hx hb dL_law_274 (by decide) ?_
        refine lv_irem hx hb dL_law_276 (by decide) ?_
        refine lv_iconst (v := 5) hx hb dL_law_277 (by decide) ?_
        refine lv_icmp_ne (tgt := 301) hx hb dL_law_278 (by decide) (fun c20 => ?_) (fun c20 => ?_)
        · refine lv_iconst (v := 1) hx hb dL_law_301 (by decide) ?_
          refine lv_goto (tgt := 306) hx hb dL_law_302 (by decide) ?_
          refine lv_istore (lv' := [(9, .int 1), (11, .int x), (0, .ref b), (1, .ref (α 0)), (2, .ref (lm α 0)), (3, .ref (lm α 1)), (4, .ref (lm α 2)), (5, .ref (lm α 3)), (6, .ref (ln α 0)), (7, .ref (ln α 1)), (8, .ref (ln α 2)), (10, .int (nI t))]) hx hb dL_law_306 hl (by decide) rfl (fun ls hl => ?_)
          refine lv_iinc (v := nI (t + 1)) (lv' := [(10, .int (nI (t + 1))), (9, .int 1), (11, .int x), (0, .ref b), (1, .ref (α 0)), (2, .ref (lm α 0)), (3, .ref (lm α 1)), (4, .ref (lm α 2)), (5, .ref (lm α 3)), (6, .ref (ln α 0)), (7, .ref (ln α 1)), (8, .ref (ln α 2))]) hx hb dL_law_308 hl (k := 11) rfl (nI_1 t) (by decide) rfl (fun ls hl => ?_)
          refine lv_goto (tgt := 161) hx hb dL_law_311 (by decide) ?_
          exact ih161 (t + 1) R1 P3 R3 H14 (by omega) hgw1 (bud_le hbu1 (by omega)) hO hL hL2 _ hS _ (lv_sub hl [3, 4, 5, 6, 7, 8, 9, 10, 11, 1, 0] rfl)
        refine lv_aload_n hx hb dL_law_281 rfl (lv_at hl 2 rfl) ?_
        refine lv_aload_n hx hb dL_law_282 rfl (lv_at hl 3 rfl) ?_
        refine lv_aload_n hx hb dL_law_283 rfl (lv_at hl 4 rfl) ?_
        refine lv_aload hx hb dL_law_284 (lv_at hl 6 rfl) ?_
        refine lv_iload hx hb dL_law_286 (lv_at hl 0 rfl) ?_
        refine lv_bipush (v := 7) hx hb dL_law_288 (by decide) ?_
        refine lv_ishr hx hb dL_law_290 ?_
        refine lv_iconst (v := 3) hx hb dL_law_291 (by decide) ?_
        refine dp_Si hF hK hN (c_L_low l D G (x >>> (7 &&& 31)) 3 _ (by decide) (by decide)) (va_cwS 2 hts gL_law_L_low rfl rfl rfl (by decide +kernel) ⟨Nat.le_of_ble_eq_true rfl, Nat.le_of_ble_eq_true rfl⟩) hS nA_i [.ref (lm α 3), .ref (lm α 1), .ref (lm α 0), .ref (α 0)] rfl rfl hl.1 (Nat.le_of_ble_eq_true rfl) dL_law_292 ⟨Nat.le_of_ble_eq_true rfl, Nat.le_of_ble_eq_true rfl⟩ (fun rH15 H15 locs hp hzH15 hkH15 hS => ?_)
        obtain ⟨rfl, rfl⟩ := hp
        refine dp_Si hF hK hN (c_L_isFair l D G α R1 P3 (low (x >>> (7 &&& 31)) 3) _ hα hO hL hgw1.1 hgw1.2.1 (low_lt (by decide))) (va_cwS 5 hts gL_law_L_isFair rfl rfl rfl (by decide +kernel) ⟨Nat.le_of_ble_eq_true rfl, Nat.le_of_ble_eq_true rfl⟩) hS (at_ge hrg) [] rfl rfl hl.1 (Nat.le_of_ble_eq_true rfl) dL_law_295 ⟨Nat.le_of_ble_eq_true rfl, Nat.le_of_ble_eq_true rfl⟩ (fun rH16 H16 locs hp hzH16 hkH16 hS => ?_)
        obtain ⟨rfl, hO, P4, hL⟩ := hp
        replace hL2 := hL2.mixT hα hL hkH16
        refine lv_if_eq (tgt := 305) hx hb dL_law_298 (by decide) (fun c21 => absurd c21 (by decide)) (fun c21 => ?_)
        refine lv_iconst (v := 1) hx hb dL_law_301 (by decide) ?_
        refine lv_goto (tgt := 306) hx hb dL_law_302 (by decide) ?_
        refine lv_istore (lv' := [(9, .int 1), (11, .int x), (0, .ref b), (1, .ref (α 0)), (2, .ref (lm α 0)), (3, .ref (lm α 1)), (4, .ref (lm α 2)), (5, .ref (lm α 3)), (6, .ref (ln α 0)), (7, .ref (ln α 1)), (8, .ref (ln α 2)), (10, .int (nI t))]) hx hb dL_law_306 hl (by decide) rfl (fun ls hl => ?_)
        refine lv_iinc (v := nI (t + 1)) (lv' := [(10, .int (nI (t + 1))), (9, .int 1), (11, .int x), (0, .ref b), (1, .ref (α 0)), (2, .ref (lm α 0)), (3, .ref (lm α 1)), (4, .ref (lm α 2)), (5, .ref (lm α 3)), (6, .ref (ln α 0)), (7, .ref (ln α 1)), (8, .ref (ln α 2))]) hx hb dL_law_308 hl (k := 11) rfl (nI_1 t) (by decide) rfl (fun ls hl => ?_)
        refine lv_goto (tgt := 161) hx hb dL_law_311 (by decide) ?_
        exact ih161 (t + 1) R1 P4 R3 H16 (by omega) hgw1 (bud_le hbu1 (by omega)) hO hL hL2 _ hS _ (lv_sub hl [3, 4, 5, 6, 7, 8, 9, 10, 11, 1, 0] rfl)
      refine lv_iconst (v := 3) hx hb dL_law_194 (by decide) ?_
      refine lv_goto (tgt := 220) hx hb dL_law_195 (by decide) ?_
      refine lv_iload hx hb dL_law_220 (lv_at hl 0 rfl) ?_
      refine dpe_Si hF hK hN hZ (c_L_acts l D G α R P 3 x (60 * t) _ hα hO hL hgw.1 hgw.2.1 hgw.2.2 hbu) (va_cwS 7 hts gL_law_L_acts rfl rfl rfl (by decide +kernel) ⟨Nat.le_of_ble_eq_true rfl, Nat.le_of_ble_eq_true rfl⟩) hS (at_ge hrg) [] rfl rfl hl.1 (Nat.le_of_ble_eq_true rfl) dL_law_222 ⟨Nat.le_of_ble_eq_true rfl, Nat.le_of_ble_eq_true rfl⟩ (fun rH17 H17 locs hp hzH17 hkH17 hS => ?_)
      obtain ⟨rfl, R1, P1, hgw1, hbu1, hO, hL⟩ := hp
      replace hL2 := hL2.mixT hα hL hkH17
      refine lv_if_eq (tgt := 305) hx hb dL_law_225 (by decide) (fun c22 => absurd c22 (by decide)) (fun c22 => ?_)
      refine lv_aload_n hx hb dL_law_228 rfl (lv_at hl 2 rfl) ?_
      refine lv_aload_n hx hb dL_law_229 rfl (lv_at hl 3 rfl) ?_
      refine lv_aload_n hx hb dL_law_230 rfl (lv_at hl 4 rfl) ?_
      refine lv_aload hx hb dL_law_231 (lv_at hl 5 rfl) ?_
      refine lv_aload hx hb dL_law_233 (lv_at hl 6 rfl) ?_
      refine dp_Si hF hK hN (c_L_isTold l D G α R1 P1 (60 * t + 60) _ hα hO hL hgw1.1 hgw1.2.1 hgw1.2.2 hbu1 (by omega)) (va_cwS 5 hts gL_law_L_isTold rfl rfl rfl (by decide +kernel) ⟨Nat.le_of_ble_eq_true rfl, Nat.le_of_ble_eq_true rfl⟩) hS (at_ge hrg) [] rfl rfl hl.1 (Nat.le_of_ble_eq_true rfl) dL_law_235 ⟨Nat.le_of_ble_eq_true rfl, Nat.le_of_ble_eq_true rfl⟩ (fun rH18 H18 locs hp hzH18 hkH18 hS => ?_)
      obtain ⟨rfl, hO, hL⟩ := hp
      replace hL2 := hL2.mixT hα hL hkH18
      refine lv_if_eq (tgt := 305) hx hb dL_law_238 (by decide) (fun c23 => absurd c23 (by decide)) (fun c23 => ?_)
      refine lv_iload hx hb dL_law_241 (lv_at hl 11 rfl) ?_
      refine lv_iconst (v := 3) hx hb dL_law_243 (by decide) ?_
      refine lv_irem hx hb dL_law_244 (by decide) ?_
      refine lv_iconst (v := 2) hx hb dL_law_245 (by decide) ?_
      refine lv_icmp_ne (tgt := 272) hx hb dL_law_246 (by decide) (fun c24 => ?_) (fun c24 => ?_)
      · refine lv_iload hx hb dL_law_272 (lv_at hl 11 rfl) ?_
        refine lv_bipush (v := 6) hx hb dL_law_274 (by decide) ?_
        refine lv_irem hx hb dL_law_276 (by decide) ?_
        refine lv_iconst (v := 5) hx hb dL_law_277 (by decide) ?_
        refine lv_icmp_ne (tgt := 301) hx hb dL_law_278 (by decide) (fun c25 => ?_) (fun c25 => ?_)
        · refine lv_iconst (v := 1) hx hb dL_law_301 (by decide) ?_
          refine lv_goto (tgt := 306) hx hb dL_law_302 (by decide) ?_
          refine lv_istore (lv' := [(9, .int 1), (11, .int x), (0, .ref b), (1, .ref (α 0)), (2, .ref (lm α 0)), (3, .ref (lm α 1)), (4, .ref (lm α 2)), (5, .ref (lm α 3)), (6, .ref (ln α 0)), (7, .ref (ln α 1)), (8, .ref (ln α 2)), (10, .int (nI t))]) hx hb dL_law_306 hl (by decide) rfl (fun ls hl => ?_)
          refine lv_iinc (v := nI (t + 1)) (lv' := [(10, .int (nI (t + 1))), (9, .int 1), (11, .int x), (0, .ref b), (1, .ref (α 0)), (2, .ref (lm α 0)), (3, .ref (lm α 1)), (4, .ref (lm α 2)), (5, .ref (lm α 3)), (6, .ref (ln α 0)), (7, .ref (ln α 1)), (8, .ref (ln α 2))]) hx hb dL_law_308 hl (k := 11) rfl (nI_1 t) (by decide) rfl (fun ls hl => ?_)
          refine lv_goto (tgt := 161) hx hb dL_law_311 (by decide) ?_
          exact ih161 (t + 1) R1 ((pwv R1)) R2 H18 (by omega) hgw1 (bud_le hbu1 (by omega)) hO hL hL2 _ hS _ (lv_sub hl [3, 4, 5, 6, 7, 8, 9, 10, 11, 1, 0] rfl)
        refine lv_aload_n hx hb dL_law_281 rfl (lv_at hl 2 rfl) ?_
        refine lv_aload_n hx hb dL_law_282 rfl (lv_at hl 3 rfl) ?_
        refine lv_aload_n hx hb dL_law_283 rfl (lv_at hl 4 rfl) ?_
        refine lv_aload hx hb dL_law_284 (lv_at hl 6 rfl) ?_
        refine lv_iload hx hb dL_law_286 (lv_at hl 0 rfl) ?_
        refine lv_bipush (v := 7) hx hb dL_law_288 (by decide) ?_
        refine lv_ishr hx hb dL_law_290 ?_
        refine lv_iconst (v := 3) hx hb dL_law_291 (by decide) ?_
        refine dp_Si hF hK hN (c_L_low l D G (x >>> (7 &&& 31)) 3 _ (by decide) (by decide)) (va_cwS 2 hts gL_law_L_low rfl rfl rfl (by decide +kernel) ⟨Nat.le_of_ble_eq_true rfl, Nat.le_of_ble_eq_true rfl⟩) hS nA_i [.ref (lm α 3), .ref (lm α 1), .ref (lm α 0), .ref (α 0)] rfl rfl hl.1 (Nat.le_of_ble_eq_true rfl) dL_law_292 ⟨Nat.le_of_ble_eq_true rfl, Nat.le_of_ble_eq_true rfl⟩ (fun rH19 H19 locs hp hzH19 hkH19 hS => ?_)
        obtain ⟨rfl, rfl⟩ := hp
        refine dp_Si hF hK hN (c_L_isFair l D G α R1 (pwv R1) (low (x >>> (7 &&& 31)) 3) _ hα hO hL hgw1.1 hgw1.2.1 (low_lt (by decide))) (va_cwS 5 hts gL_law_L_isFair rfl rfl rfl (by decide +kernel) ⟨Nat.le_of_ble_eq_true rfl, Nat.le_of_ble_eq_true rfl⟩) hS (at_ge hrg) [] rfl rfl hl.1 (Nat.le_of_ble_eq_true rfl) dL_law_295 ⟨Nat.le_of_ble_eq_true rfl, Nat.le_of_ble_eq_true rfl⟩ (fun rH20 H20 locs hp hzH20 hkH20 hS => ?_)
        obtain ⟨rfl, hO, P4, hL⟩ := hp
        replace hL2 := hL2.mixT hα hL hkH20
        refine lv_if_eq (tgt := 305) hx hb dL_law_298 (by decide) (fun c26 => absurd c26 (by decide)) (fun c26 => ?_)
        refine lv_iconst (v := 1) hx hb dL_law_301 (by decide) ?_
        refine lv_goto (tgt := 306) hx hb dL_law_302 (by decide) ?_
        refine lv_istore (lv' := [(9, .int 1), (11, .int x), (0, .ref b), (1, .ref (α 0)), (2, .ref (lm α 0)), (3, .ref (lm α 1)), (4, .ref (lm α 2)), (5, .ref (lm α 3)), (6, .ref (ln α 0)), (7, .ref (ln α 1)), (8, .ref (ln α 2)), (10, .int (nI t))]) hx hb dL_law_306 hl (by decide) rfl (fun ls hl => ?_)
        refine lv_iinc (v := nI (t + 1)) (lv' := [(10, .int (nI (t + 1))), (9, .int 1), (11, .int x), (0, .ref b), (1, .ref (α 0)), (2, .ref (lm α 0)), (3, .ref (lm α 1)), (4, .ref (lm α 2)), (5, .ref (lm α 3)), (6, .ref (ln α 0)), (7, .ref (ln α 1)), (8, .ref (ln α 2))]) hx hb dL_law_308 hl (k := 11) rfl (nI_1 t) (by decide) rfl (fun ls hl => ?_)
        refine lv_goto (tgt := 161) hx hb dL_law_311 (by decide) ?_
        exact ih161 (t + 1) R1 P4 R2 H20 (by omega) hgw1 (bud_le hbu1 (by omega)) hO hL hL2 _ hS _ (lv_sub hl [3, 4, 5, 6, 7, 8, 9, 10, 11, 1, 0] rfl)
      refine lv_aload_n hx hb dL_law_249 rfl (lv_at hl 2 rfl) ?_
      refine lv_aload_n hx hb dL_law_250 rfl (lv_at hl 3 rfl) ?_
      refine lv_aload_n hx hb dL_law_251 rfl (lv_at hl 4 rfl) ?_
      refine lv_aload hx hb dL_law_252 (lv_at hl 5 rfl) ?_
      refine lv_aload hx hb dL_law_254 (lv_at hl 6 rfl) ?_
      refine lv_aload hx hb dL_law_256 (lv_at hl 7 rfl) ?_
      refine lv_aload hx hb dL_law_258 (lv_at hl 8 rfl) ?_
      refine lv_aload hx hb dL_law_260 (lv_at hl 9 rfl) ?_
      refine lv_iload hx hb dL_law_262 (lv_at hl 0 rfl) ?_
      refine lv_iconst (v := 5) hx hb dL_law_264 (by decide) ?_
      refine lv_ishr hx hb dL_law_265 ?_
      refine dp_Si hF hK hN (c_L_would l D G α R1 (pwv R1) R2 (x >>> (5 &&& 31)) _ hα hO hL hgw1.1 hgw1.2.1 hL2) (va_cwS 9 hts gL_law_L_would rfl rfl rfl (by decide +kernel) ⟨Nat.le_of_ble_eq_true rfl, Nat.le_of_ble_eq_true rfl⟩) hS (au_ge hrg) [] rfl rfl hl.1 (Nat.le_of_ble_eq_true rfl) dL_law_266 ⟨Nat.le_of_ble_eq_true rfl, Nat.le_of_ble_eq_true rfl⟩ (fun rH21 H21 locs hp hzH21 hkH21 hS => ?_)
      obtain ⟨rfl, hO, P3, R3, hL, hL2⟩ := hp
      refine lv_if_eq (tgt := 305) hx hb dL_law_269 (by decide) (fun c27 => absurd c27 (by decide)) (fun c27 => ?_)
      refine lv_iload hx hb dL_law_272 (lv_at hl 11 rfl) ?_
      refine lv_bipush (v := 6) hx hb dL_law_274 (by decide) ?_
      refine lv_irem hx hb dL_law_276 (by decide) ?_
      refine lv_iconst (v := 5) hx hb dL_law_277 (by decide) ?_
      refine lv_icmp_ne (tgt := 301) hx hb dL_law_278 (by decide) (fun c28 => ?_) (fun c28 => ?_)
      · refine lv_iconst (v := 1) hx hb dL_law_301 (by decide) ?_
        refine lv_goto (tgt := 306) hx hb dL_law_302 (by decide) ?_
        refine lv_istore (lv' := [(9, .int 1), (11, .int x), (0, .ref b), (1, .ref (α 0)), (2, .ref (lm α 0)), (3, .ref (lm α 1)), (4, .ref (lm α 2)), (5, .ref (lm α 3)), (6, .ref (ln α 0)), (7, .ref (ln α 1)), (8, .ref (ln α 2)), (10, .int (nI t))]) hx hb dL_law_306 hl (by decide) rfl (fun ls hl => ?_)
        refine lv_iinc (v := nI (t + 1)) (lv' := [(10, .int (nI (t + 1))), (9, .int 1), (11, .int x), (0, .ref b), (1, .ref (α 0)), (2, .ref (lm α 0)), (3, .ref (lm α 1)), (4, .ref (lm α 2)), (5, .ref (lm α 3)), (6, .ref (ln α 0)), (7, .ref (ln α 1)), (8, .ref (ln α 2))]) hx hb dL_law_308 hl (k := 11) rfl (nI_1 t) (by decide) rfl (fun ls hl => ?_)
        refine lv_goto (tgt := 161) hx hb dL_law_311 (by decide) ?_
        exact ih161 (t + 1) R1 P3 R3 H21 (by omega) hgw1 (bud_le hbu1 (by omega)) hO hL hL2 _ hS _ (lv_sub hl [3, 4, 5, 6, 7, 8, 9, 10, 11, 1, 0] rfl)
      refine lv_aload_n hx hb dL_law_281 rfl (lv_at hl 2 rfl) ?_
      refine lv_aload_n hx hb dL_law_282 rfl (lv_at hl 3 rfl) ?_
      refine lv_aload_n hx hb dL_law_283 rfl (lv_at hl 4 rfl) ?_
      refine lv_aload hx hb dL_law_284 (lv_at hl 6 rfl) ?_
      refine lv_iload hx hb dL_law_286 (lv_at hl 0 rfl) ?_
      refine lv_bipush (v := 7) hx hb dL_law_288 (by decide) ?_
      refine lv_ishr hx hb dL_law_290 ?_
      refine lv_iconst (v := 3) hx hb dL_law_291 (by decide) ?_
      refine dp_Si hF hK hN (c_L_low l D G (x >>> (7 &&& 31)) 3 _ (by decide) (by decide)) (va_cwS 2 hts gL_law_L_low rfl rfl rfl (by decide +kernel) ⟨Nat.le_of_ble_eq_true rfl, Nat.le_of_ble_eq_true rfl⟩) hS nA_i [.ref (lm α 3), .ref (lm α 1), .ref (lm α 0), .ref (α 0)] rfl rfl hl.1 (Nat.le_of_ble_eq_true rfl) dL_law_292 ⟨Nat.le_of_ble_eq_true rfl, Nat.le_of_ble_eq_true rfl⟩ (fun rH22 H22 locs hp hzH22 hkH22 hS => ?_)
      obtain ⟨rfl, rfl⟩ := hp
      refine dp_Si hF hK hN (c_L_isFair l D G α R1 P3 (low (x >>> (7 &&& 31)) 3) _ hα hO hL hgw1.1 hgw1.2.1 (low_lt (by decide))) (va_cwS 5 hts gL_law_L_isFair rfl rfl rfl (by decide +kernel) ⟨Nat.le_of_ble_eq_true rfl, Nat.le_of_ble_eq_true rfl⟩) hS (at_ge hrg) [] rfl rfl hl.1 (Nat.le_of_ble_eq_true rfl) dL_law_295 ⟨Nat.le_of_ble_eq_true rfl, Nat.le_of_ble_eq_true rfl⟩ (fun rH23 H23 locs hp hzH23 hkH23 hS => ?_)
      obtain ⟨rfl, hO, P4, hL⟩ := hp
      replace hL2 := hL2.mixT hα hL hkH23
      refine lv_if_eq (tgt := 305) hx hb dL_law_298 (by decide) (fun c29 => absurd c29 (by decide)) (fun c29 => ?_)
      refine lv_iconst (v := 1) hx hb dL_law_301 (by decide) ?_
      refine lv_goto (tgt := 306) hx hb dL_law_302 (by decide) ?_
      refine lv_istore (lv' := [(9, .int 1), (11, .int x), (0, .ref b), (1, .ref (α 0)), (2, .ref (lm α 0)), (3, .ref (lm α 1)), (4, .ref (lm α 2)), (5, .ref (lm α 3)), (6, .ref (ln α 0)), (7, .ref (ln α 1)), (8, .ref (ln α 2)), (10, .int (nI t))]) hx hb dL_law_306 hl (by decide) rfl (fun ls hl => ?_)
      refine lv_iinc (v := nI (t + 1)) (lv' := [(10, .int (nI (t + 1))), (9, .int 1), (11, .int x), (0, .ref b), (1, .ref (α 0)), (2, .ref (lm α 0)), (3, .ref (lm α 1)), (4, .ref (lm α 2)), (5, .ref (lm α 3)), (6, .ref (ln α 0)), (7, .ref (ln α 1)), (8, .ref (ln α 2))]) hx hb dL_law_308 hl (k := 11) rfl (nI_1 t) (by decide) rfl (fun ls hl => ?_)
      refine lv_goto (tgt := 161) hx hb dL_law_311 (by decide) ?_
      exact ih161 (t + 1) R1 P4 R3 H23 (by omega) hgw1 (bud_le hbu1 (by omega)) hO hL hL2 _ hS _ (lv_sub hl [3, 4, 5, 6, 7, 8, 9, 10, 11, 1, 0] rfl)
  exact loop161 44 0 r0 P0 ((fun _ => 0)) H rfl r0_gw (bud_le r0_bud (Nat.zero_le _)) hO hL hL2 _ hS _ (lv_sub hl [0, 1, 2, 3, 4, 5, 6, 7, 8, 9, 10] rfl)
