/-! the law's own words: by piece and place -/
theorem inlX0 : ∀ w ∈ wsX00, w ∈ wsL_law := fun _ h => List.mem_append_left _ (List.mem_append_left _ (List.mem_append_left _ (List.mem_append_left _ (List.mem_append_left _ (List.mem_append_left _ (List.mem_append_left _ (List.mem_append_left _ (List.mem_append_right _ h))))))))
theorem inlX1 : ∀ w ∈ wsX10, w ∈ wsL_law := fun _ h => List.mem_append_left _ (List.mem_append_left _ (List.mem_append_left _ (List.mem_append_left _ (List.mem_append_left _ (List.mem_append_right _ h)))))
theorem inlX2 : ∀ w ∈ wsX20, w ∈ wsL_law := fun _ h => List.mem_append_left _ (List.mem_append_left _ (List.mem_append_left _ (List.mem_append_left _ (List.mem_append_right _ h))))
theorem inlX3 : ∀ w ∈ wsX30, w ∈ wsL_law := fun _ h => List.mem_append_left _ (List.mem_append_left _ (List.mem_append_left _ (List.mem_append_left _ (List.mem_append_left _ (List.mem_append_left _ (List.mem_append_left _ (List.mem_append_right _ h)))))))
theorem inlX4 : ∀ w ∈ wsX40, w ∈ wsL_law := fun _ h => List.mem_append_left _ (List.mem_append_left _ (List.mem_append_left _ (List.mem_append_left _ (List.mem_append_left _ (List.mem_append_left _ (List.mem_append_right _ h))))))
theorem inlX5 : ∀ w ∈ wsX50, w ∈ wsL_law := fun _ h => List.mem_append_left _ (List.mem_append_left _ (List.mem_append_left _ (List.mem_append_left _ (List.mem_append_left _ (List.mem_append_left _ (List.mem_append_left _ (List.mem_append_left _ (List.mem_append_left _ (List.mem_append_right _ h)))))))))
def lawPP : List (List Cond) := [wsL_law0_r1, wsL_law0_r2, wsL_law0_r3, wsL_law0_r4, wsL_law0_r5, wsL_law0_r6, wsL_law0_r7, wsL_law0_r8, wsL_law0_r9, wsL_law0_r10, wsL_law0_r11, wsL_law0_r12, wsL_law0_r13, wsL_law0_r14, wsL_law0_r15, wsL_law0_r16, wsL_law0_r17, wsL_law0_r18, wsL_law0_r19, wsX50, wsX00, wsX30, wsX40, wsX10, wsX20]
theorem lawPP_in : ∀ r ∈ lawPP, ∀ w ∈ r, w ∈ wsL_law := by
  have h0 : ∀ w ∈ wsL_law0, w ∈ wsL_law := fun _ h => List.mem_append_left _ (List.mem_append_left _ (List.mem_append_left _ h))
  have hr : ∀ w ∈ (wsL_law0_r1 ++ (wsL_law0_r2 ++ (wsL_law0_r3 ++ (wsL_law0_r4 ++ (wsL_law0_r5 ++ (wsL_law0_r6 ++ (wsL_law0_r7 ++ (wsL_law0_r8 ++ (wsL_law0_r9 ++ (wsL_law0_r10 ++ (wsL_law0_r11 ++ (wsL_law0_r12 ++ (wsL_law0_r13 ++ (wsL_law0_r14 ++ (wsL_law0_r15 ++ (wsL_law0_r16 ++ (wsL_law0_r17 ++ (wsL_law0_r18 ++ (wsL_law0_r19))))))))))))))))))), w ∈ wsL_law := fun w h => h0 w (List.mem_append_left _ (List.mem_append_left _ (List.mem_append_left _ (List.mem_append_left _ (List.mem_append_left _ (List.mem_append_left _ (List.mem_append_left _ (h))))))))
  have hp0 : ∀ w ∈ wsL_law0_r1, w ∈ wsL_law := fun w h => hr w (List.mem_append_left _ h)
  have ht0 : ∀ w ∈ (wsL_law0_r2 ++ (wsL_law0_r3 ++ (wsL_law0_r4 ++ (wsL_law0_r5 ++ (wsL_law0_r6 ++ (wsL_law0_r7 ++ (wsL_law0_r8 ++ (wsL_law0_r9 ++ (wsL_law0_r10 ++ (wsL_law0_r11 ++ (wsL_law0_r12 ++ (wsL_law0_r13 ++ (wsL_law0_r14 ++ (wsL_law0_r15 ++ (wsL_law0_r16 ++ (wsL_law0_r17 ++ (wsL_law0_r18 ++ (wsL_law0_r19)))))))))))))))))), w ∈ wsL_law := fun w h => hr w (List.mem_append_right _ h)
  have hp1 : ∀ w ∈ wsL_law0_r2, w ∈ wsL_law := fun w h => ht0 w (List.mem_append_left _ h)
  have ht1 : ∀ w ∈ (wsL_law0_r3 ++ (wsL_law0_r4 ++ (wsL_law0_r5 ++ (wsL_law0_r6 ++ (wsL_law0_r7 ++ (wsL_law0_r8 ++ (wsL_law0_r9 ++ (wsL_law0_r10 ++ (wsL_law0_r11 ++ (wsL_law0_r12 ++ (wsL_law0_r13 ++ (wsL_law0_r14 ++ (wsL_law0_r15 ++ (wsL_law0_r16 ++ (wsL_law0_r17 ++ (wsL_law0_r18 ++ (wsL_law0_r19))))))))))))))))), w ∈ wsL_law := fun w h => ht0 w (List.mem_append_right _ h)
  have hp2 : ∀ w ∈ wsL_law0_r3, w ∈ wsL_law := fun w h => ht1 w (List.mem_append_left _ h)
  have ht2 : ∀ w ∈ (wsL_law0_r4 ++ (wsL_law0_r5 ++ (wsL_law0_r6 ++ (wsL_law0_r7 ++ (wsL_law0_r8 ++ (wsL_law0_r9 ++ (wsL_law0_r10 ++ (wsL_law0_r11 ++ (wsL_law0_r12 ++ (wsL_law0_r13 ++ (wsL_law0_r14 ++ (wsL_law0_r15 ++ (wsL_law0_r16 ++ (wsL_law0_r17 ++ (wsL_law0_r18 ++ (wsL_law0_r19)))))))))))))))), w ∈ wsL_law := fun w h => ht1 w (List.mem_append_right _ h)
  have hp3 : ∀ w ∈ wsL_law0_r4, w ∈ wsL_law := fun w h => ht2 w (List.mem_append_left _ h)
  have ht3 : ∀ w ∈ (wsL_law0_r5 ++ (wsL_law0_r6 ++ (wsL_law0_r7 ++ (wsL_law0_r8 ++ (wsL_law0_r9 ++ (wsL_law0_r10 ++ (wsL_law0_r11 ++ (wsL_law0_r12 ++ (wsL_law0_r13 ++ (wsL_law0_r14 ++ (wsL_law0_r15 ++ (wsL_law0_r16 ++ (wsL_law0_r17 ++ (wsL_law0_r18 ++ (wsL_law0_r19))))))))))))))), w ∈ wsL_law := fun w h => ht2 w (List.mem_append_right _ h)
  have hp4 : ∀ w ∈ wsL_law0_r5, w ∈ wsL_law := fun w h => ht3 w (List.mem_append_left _ h)
  have ht4 : ∀ w ∈ (wsL_law0_r6 ++ (wsL_law0_r7 ++ (wsL_law0_r8 ++ (wsL_law0_r9 ++ (wsL_law0_r10 ++ (wsL_law0_r11 ++ (wsL_law0_r12 ++ (wsL_law0_r13 ++ (wsL_law0_r14 ++ (wsL_law0_r15 ++ (wsL_law0_r16 ++ (wsL_law0_r17 ++ (wsL_law0_r18 ++ (wsL_law0_r19)))))))))))))), w ∈ wsL_law := fun w h => ht3 w (List.mem_append_right _ h)
  have hp5 : ∀ w ∈ wsL_law0_r6, w ∈ wsL_law := fun w h => ht4 w (List.mem_append_left _ h)
  have ht5 : ∀ w ∈ (wsL_law0_r7 ++ (wsL_law0_r8 ++ (wsL_law0_r9 ++ (wsL_law0_r10 ++ (wsL_law0_r11 ++ (wsL_law0_r12 ++ (wsL_law0_r13 ++ (wsL_law0_r14 ++ (wsL_law0_r15 ++ (wsL_law0_r16 ++ (wsL_law0_r17 ++ (wsL_law0_r18 ++ (wsL_law0_r19))))))))))))), w ∈ wsL_law := fun w h => ht4 w (List.mem_append_right _ h)
  have hp6 : ∀ w ∈ wsL_law0_r7, w ∈ wsL_law := fun w h => ht5 w (List.mem_append_left _ h)
  have ht6 : ∀ w ∈ (wsL_law0_r8 ++ (wsL_law0_r9 ++ (wsL_law0_r10 ++ (wsL_law0_r11 ++ (wsL_law0_r12 ++ (wsL_law0_r13 ++ (wsL_law0_r14 ++ (wsL_law0_r15 ++ (wsL_law0_r16 ++ (wsL_law0_r17 ++ (wsL_law0_r18 ++ (wsL_law0_r19)))))))))))), w ∈ wsL_law := fun w h => ht5 w (List.mem_append_right _ h)
  have hp7 : ∀ w ∈ wsL_law0_r8, w ∈ wsL_law := fun w h => ht6 w (List.mem_append_left _ h)
  have ht7 : ∀ w ∈ (wsL_law0_r9 ++ (wsL_law0_r10 ++ (wsL_law0_r11 ++ (wsL_law0_r12 ++ (wsL_law0_r13 ++ (wsL_law0_r14 ++ (wsL_law0_r15 ++ (wsL_law0_r16 ++ (wsL_law0_r17 ++ (wsL_law0_r18 ++ (wsL_law0_r19))))))))))), w ∈ wsL_law := fun w h => ht6 w (List.mem_append_right _ h)
  have hp8 : ∀ w ∈ wsL_law0_r9, w ∈ wsL_law := fun w h => ht7 w (List.mem_append_left _ h)
  have ht8 : ∀ w ∈ (wsL_law0_r10 ++ (wsL_law0_r11 ++ (wsL_law0_r12 ++ (wsL_law0_r13 ++ (wsL_law0_r14 ++ (wsL_law0_r15 ++ (wsL_law0_r16 ++ (wsL_law0_r17 ++ (wsL_law0_r18 ++ (wsL_law0_r19)))))))))), w ∈ wsL_law := fun w h => ht7 w (List.mem_append_right _ h)
  have hp9 : ∀ w ∈ wsL_law0_r10, w ∈ wsL_law := fun w h => ht8 w (List.mem_append_left _ h)
  have ht9 : ∀ w ∈ (wsL_law0_r11 ++ (wsL_law0_r12 ++ (wsL_law0_r13 ++ (wsL_law0_r14 ++ (wsL_law0_r15 ++ (wsL_law0_r16 ++ (wsL_law0_r17 ++ (wsL_law0_r18 ++ (wsL_law0_r19))))))))), w ∈ wsL_law := fun w h => ht8 w (List.mem_append_right _ h)
  have hp10 : ∀ w ∈ wsL_law0_r11, w ∈ wsL_law := fun w h => ht9 w (List.mem_append_left _ h)
  have ht10 : ∀ w ∈ (wsL_law0_r12 ++ (wsL_law0_r13 ++ (wsL_law0_r14 ++ (wsL_law0_r15 ++ (wsL_law0_r16 ++ (wsL_law0_r17 ++ (wsL_law0_r18 ++ (wsL_law0_r19)))))))), w ∈ wsL_law := fun w h => ht9 w (List.mem_append_right _ h)
  have hp11 : ∀ w ∈ wsL_law0_r12, w ∈ wsL_law := fun w h => ht10 w (List.mem_append_left _ h)
  have ht11 : ∀ w ∈ (wsL_law0_r13 ++ (wsL_law0_r14 ++ (wsL_law0_r15 ++ (wsL_law0_r16 ++ (wsL_law0_r17 ++ (wsL_law0_r18 ++ (wsL_law0_r19))))))), w ∈ wsL_law := fun w h => ht10 w (List.mem_append_right _ h)
  have hp12 : ∀ w ∈ wsL_law0_r13, w ∈ wsL_law := fun w h => ht11 w (List.mem_append_left _ h)
  have ht12 : ∀ w ∈ (wsL_law0_r14 ++ (wsL_law0_r15 ++ (wsL_law0_r16 ++ (wsL_law0_r17 ++ (wsL_law0_r18 ++ (wsL_law0_r19)))))), w ∈ wsL_law := fun w h => ht11 w (List.mem_append_right _ h)
  have hp13 : ∀ w ∈ wsL_law0_r14, w ∈ wsL_law := fun w h => ht12 w (List.mem_append_left _ h)
  have ht13 : ∀ w ∈ (wsL_law0_r15 ++ (wsL_law0_r16 ++ (wsL_law0_r17 ++ (wsL_law0_r18 ++ (wsL_law0_r19))))), w ∈ wsL_law := fun w h => ht12 w (List.mem_append_right _ h)
  have hp14 : ∀ w ∈ wsL_law0_r15, w ∈ wsL_law := fun w h => ht13 w (List.mem_append_left _ h)
  have ht14 : ∀ w ∈ (wsL_law0_r16 ++ (wsL_law0_r17 ++ (wsL_law0_r18 ++ (wsL_law0_r19)))), w ∈ wsL_law := fun w h => ht13 w (List.mem_append_right _ h)
  have hp15 : ∀ w ∈ wsL_law0_r16, w ∈ wsL_law := fun w h => ht14 w (List.mem_append_left _ h)
  have ht15 : ∀ w ∈ (wsL_law0_r17 ++ (wsL_law0_r18 ++ (wsL_law0_r19))), w ∈ wsL_law := fun w h => ht14 w (List.mem_append_right _ h)
  have hp16 : ∀ w ∈ wsL_law0_r17, w ∈ wsL_law := fun w h => ht15 w (List.mem_append_left _ h)
  have ht16 : ∀ w ∈ (wsL_law0_r18 ++ (wsL_law0_r19)), w ∈ wsL_law := fun w h => ht15 w (List.mem_append_right _ h)
  have hp17 : ∀ w ∈ wsL_law0_r18, w ∈ wsL_law := fun w h => ht16 w (List.mem_append_left _ h)
  have hp18 : ∀ w ∈ wsL_law0_r19, w ∈ wsL_law := fun w h => ht16 w (List.mem_append_right _ h)
  have hp19 : ∀ w ∈ wsX50, w ∈ wsL_law := inlX5
  have hp20 : ∀ w ∈ wsX00, w ∈ wsL_law := inlX0
  have hp21 : ∀ w ∈ wsX30, w ∈ wsL_law := inlX3
  have hp22 : ∀ w ∈ wsX40, w ∈ wsL_law := inlX4
  have hp23 : ∀ w ∈ wsX10, w ∈ wsL_law := inlX1
  have hp24 : ∀ w ∈ wsX20, w ∈ wsL_law := inlX2
  exact List.forall_mem_cons.mpr ⟨hp0, List.forall_mem_cons.mpr ⟨hp1, List.forall_mem_cons.mpr ⟨hp2, List.forall_mem_cons.mpr ⟨hp3, List.forall_mem_cons.mpr ⟨hp4, List.forall_mem_cons.mpr ⟨hp5, List.forall_mem_cons.mpr ⟨hp6, List.forall_mem_cons.mpr ⟨hp7, List.forall_mem_cons.mpr ⟨hp8, List.forall_mem_cons.mpr ⟨hp9, List.forall_mem_cons.mpr ⟨hp10, List.forall_mem_cons.mpr ⟨hp11, List.forall_mem_cons.mpr ⟨hp12, List.forall_mem_cons.mpr ⟨hp13, List.forall_mem_cons.mpr ⟨hp14, List.forall_mem_cons.mpr ⟨hp15, List.forall_mem_cons.mpr ⟨hp16, List.forall_mem_cons.mpr ⟨hp17, List.forall_mem_cons.mpr ⟨hp18, List.forall_mem_cons.mpr ⟨hp19, List.forall_mem_cons.mpr ⟨hp20, List.forall_mem_cons.mpr ⟨hp21, List.forall_mem_cons.mpr ⟨hp22, List.forall_mem_cons.mpr ⟨hp23, List.forall_mem_cons.mpr ⟨hp24, fun _ h => absurd h List.not_mem_nil⟩⟩⟩⟩⟩⟩⟩⟩⟩⟩⟩⟩⟩⟩⟩⟩⟩⟩⟩⟩⟩⟩⟩⟩⟩
theorem goodIn_q (ws : List Cond) (ps : List (Nat × Nat)) (hp : ws = ps.filterMap (fun i => (lawPP[i.1]?).bind (fun r => r[i.2]?))) (h : ws.all goodWord = true) : GoodIn wsL_law ws := by
  intro w hw
  have h1 := List.all_eq_true.mp h w hw
  rw [hp] at hw
  obtain ⟨i, -, hi⟩ := List.mem_filterMap.mp hw
  obtain ⟨r, hr, hj⟩ := Option.bind_eq_some_iff.mp hi
  exact ⟨lawPP_in r (List.mem_of_getElem? hr) w (List.mem_of_getElem? hj), good_of_word h1⟩
