def wsL_law : List Cond := (wsL_law_r1 ++ (wsL_law_r2 ++ (wsL_law_r3 ++ (wsL_law_r4 ++ (wsL_law_r5 ++ (wsL_law_r6 ++ (wsL_law_r7 ++ (wsL_law_r8 ++ (wsL_law_r9 ++ (wsL_law_r10 ++ (wsL_law_r11 ++ (wsL_law_r12 ++ (wsL_law_r13 ++ (wsL_law_r14 ++ (wsL_law_r15 ++ (wsL_law_r16 ++ (wsL_law_r17 ++ (wsL_law_r18 ++ (wsL_law_r19 ++ (wsL_law_r20 ++ (wsL_law_r21 ++ (wsL_law_r22 ++ (wsL_law_r23 ++ (wsL_law_r24 ++ (wsL_law_r25 ++ (wsL_law_r26 ++ (wsL_law_r27 ++ wsL_law_r28))))))))))))))))))))))))))) ++ wsX40 ++ wsX50 ++ wsX10 ++ wsX20 ++ wsX00 ++ wsX30 ++ ([] : List Cond)
set_option maxRecDepth 100000 in
theorem in_wsX00 : ∀ w ∈ wsX00, w ∈ lw_tbl := by decide +kernel
set_option maxRecDepth 100000 in
theorem in_wsX10 : ∀ w ∈ wsX10, w ∈ lw_tbl := by decide +kernel
set_option maxRecDepth 100000 in
theorem in_wsX20 : ∀ w ∈ wsX20, w ∈ lw_tbl := by decide +kernel
set_option maxRecDepth 100000 in
theorem in_wsX30 : ∀ w ∈ wsX30, w ∈ lw_tbl := by decide +kernel
set_option maxRecDepth 100000 in
theorem in_wsX40 : ∀ w ∈ wsX40, w ∈ lw_tbl := by decide +kernel
set_option maxRecDepth 100000 in
theorem in_wsX50 : ∀ w ∈ wsX50, w ∈ lw_tbl := by decide +kernel
theorem ap_in {a b T : List Cond} (ha : ∀ w ∈ a, w ∈ T) (hb : ∀ w ∈ b, w ∈ T) : ∀ w ∈ a ++ b, w ∈ T := fun w h => (List.mem_append.mp h).elim (ha w) (hb w)
theorem wsL_law_in : ∀ w ∈ wsL_law, w ∈ lw_tbl := (ap_in (ap_in (ap_in (ap_in (ap_in (ap_in (ap_in (ap_in in_wsL_law_r1 (ap_in in_wsL_law_r2 (ap_in in_wsL_law_r3 (ap_in in_wsL_law_r4 (ap_in in_wsL_law_r5 (ap_in in_wsL_law_r6 (ap_in in_wsL_law_r7 (ap_in in_wsL_law_r8 (ap_in in_wsL_law_r9 (ap_in in_wsL_law_r10 (ap_in in_wsL_law_r11 (ap_in in_wsL_law_r12 (ap_in in_wsL_law_r13 (ap_in in_wsL_law_r14 (ap_in in_wsL_law_r15 (ap_in in_wsL_law_r16 (ap_in in_wsL_law_r17 (ap_in in_wsL_law_r18 (ap_in in_wsL_law_r19 (ap_in in_wsL_law_r20 (ap_in in_wsL_law_r21 (ap_in in_wsL_law_r22 (ap_in in_wsL_law_r23 (ap_in in_wsL_law_r24 (ap_in in_wsL_law_r25 (ap_in in_wsL_law_r26 (ap_in in_wsL_law_r27 in_wsL_law_r28))))))))))))))))))))))))))) in_wsX40) in_wsX50) in_wsX10) in_wsX20) in_wsX00) in_wsX30) (fun _ h => absurd h List.not_mem_nil))
theorem gl_in {ws : List Cond} (h : GoodIn wsL_law ws) : GoodIn lw_tbl ws := fun w hw => ⟨wsL_law_in w (h w hw).1, (h w hw).2⟩
