theorem goodIn_trans {a b c : List Cond} (h1 : GoodIn a b) (h2 : GoodIn b c) : GoodIn a c := fun w h => ⟨(h1 w (h2 w h).1).1, (h2 w h).2⟩
theorem goodIn_nil {a : List Cond} : GoodIn a [] := fun _ h => absurd h List.not_mem_nil
theorem goodIn_up {a b : List Cond} {c : Cond} (h : GoodIn a b) : GoodIn (c :: a) b := fun w z => ⟨List.mem_cons_of_mem _ (h w z).1, (h w z).2⟩
theorem goodIn_c {a b : List Cond} {c : Cond} (h1 : GoodIn a [c]) (h2 : GoodIn a b) : GoodIn a (c :: b) := fun w z => (List.mem_cons.mp z).elim (fun e => h1 w (by rw [e]; exact List.mem_singleton_self _)) (h2 w)
set_option maxRecDepth 20000 in
theorem gs_0 : GoodIn wsL_law wsL_law0_r1 := goodIn_sub (fun _ h => List.mem_append_left _ (List.mem_append_left _ (List.mem_append_left _ (List.mem_append_left _ (List.mem_append_left _ (List.mem_append_left _ (List.mem_append_left _ (List.mem_append_left _ (List.mem_append_left _ (List.mem_append_left _ (List.mem_append_left _ (List.mem_append_left _ (List.mem_append_left _ h))))))))))))) (by decide +kernel)
set_option maxRecDepth 20000 in
theorem gs_1 : GoodIn wsL_law wsL_law0_r2 := goodIn_sub (fun _ h => List.mem_append_left _ (List.mem_append_left _ (List.mem_append_left _ (List.mem_append_left _ (List.mem_append_left _ (List.mem_append_left _ (List.mem_append_left _ (List.mem_append_left _ (List.mem_append_left _ (List.mem_append_left _ (List.mem_append_left _ (List.mem_append_left _ (List.mem_append_right _ (List.mem_append_left _ h)))))))))))))) (by decide +kernel)
set_option maxRecDepth 20000 in
theorem gs_2 : GoodIn wsL_law wsL_law0_r3 := goodIn_sub (fun _ h => List.mem_append_left _ (List.mem_append_left _ (List.mem_append_left _ (List.mem_append_left _ (List.mem_append_left _ (List.mem_append_left _ (List.mem_append_left _ (List.mem_append_left _ (List.mem_append_left _ (List.mem_append_left _ (List.mem_append_left _ (List.mem_append_left _ (List.mem_append_right _ (List.mem_append_right _ (List.mem_append_left _ h))))))))))))))) (by decide +kernel)
set_option maxRecDepth 20000 in
theorem gs_3 : GoodIn wsL_law wsL_law0_r4 := goodIn_sub (fun _ h => List.mem_append_left _ (List.mem_append_left _ (List.mem_append_left _ (List.mem_append_left _ (List.mem_append_left _ (List.mem_append_left _ (List.mem_append_left _ (List.mem_append_left _ (List.mem_append_left _ (List.mem_append_left _ (List.mem_append_left _ (List.mem_append_left _ (List.mem_append_right _ (List.mem_append_right _ (List.mem_append_right _ (List.mem_append_left _ h)))))))))))))))) (by decide +kernel)
set_option maxRecDepth 20000 in
theorem gs_4 : GoodIn wsL_law wsL_law0_r5 := goodIn_sub (fun _ h => List.mem_append_left _ (List.mem_append_left _ (List.mem_append_left _ (List.mem_append_left _ (List.mem_append_left _ (List.mem_append_left _ (List.mem_append_left _ (List.mem_append_left _ (List.mem_append_left _ (List.mem_append_left _ (List.mem_append_left _ (List.mem_append_left _ (List.mem_append_right _ (List.mem_append_right _ (List.mem_append_right _ (List.mem_append_right _ (List.mem_append_left _ h))))))))))))))))) (by decide +kernel)
set_option maxRecDepth 20000 in
theorem gs_5 : GoodIn wsL_law wsL_law0_r6 := goodIn_sub (fun _ h => List.mem_append_left _ (List.mem_append_left _ (List.mem_append_left _ (List.mem_append_left _ (List.mem_append_left _ (List.mem_append_left _ (List.mem_append_left _ (List.mem_append_left _ (List.mem_append_left _ (List.mem_append_left _ (List.mem_append_left _ (List.mem_append_left _ (List.mem_append_right _ (List.mem_append_right _ (List.mem_append_right _ (List.mem_append_right _ (List.mem_append_right _ (List.mem_append_left _ h)))))))))))))))))) (by decide +kernel)
set_option maxRecDepth 20000 in
theorem gs_6 : GoodIn wsL_law wsL_law0_r7 := goodIn_sub (fun _ h => List.mem_append_left _ (List.mem_append_left _ (List.mem_append_left _ (List.mem_append_left _ (List.mem_append_left _ (List.mem_append_left _ (List.mem_append_left _ (List.mem_append_left _ (List.mem_append_left _ (List.mem_append_left _ (List.mem_append_left _ (List.mem_append_left _ (List.mem_append_right _ (List.mem_append_right _ (List.mem_append_right _ (List.mem_append_right _ (List.mem_append_right _ (List.mem_append_right _ (List.mem_append_left _ h))))))))))))))))))) (by decide +kernel)
set_option maxRecDepth 20000 in
theorem gs_7 : GoodIn wsL_law wsL_law0_r8 := goodIn_sub (fun _ h => List.mem_append_left _ (List.mem_append_left _ (List.mem_append_left _ (List.mem_append_left _ (List.mem_append_left _ (List.mem_append_left _ (List.mem_append_left _ (List.mem_append_left _ (List.mem_append_left _ (List.mem_append_left _ (List.mem_append_left _ (List.mem_append_left _ (List.mem_append_right _ (List.mem_append_right _ (List.mem_append_right _ (List.mem_append_right _ (List.mem_append_right _ (List.mem_append_right _ (List.mem_append_right _ (List.mem_append_left _ h)))))))))))))))))))) (by decide +kernel)
set_option maxRecDepth 20000 in
theorem gs_8 : GoodIn wsL_law wsL_law0_r9 := goodIn_sub (fun _ h => List.mem_append_left _ (List.mem_append_left _ (List.mem_append_left _ (List.mem_append_left _ (List.mem_append_left _ (List.mem_append_left _ (List.mem_append_left _ (List.mem_append_left _ (List.mem_append_left _ (List.mem_append_left _ (List.mem_append_left _ (List.mem_append_left _ (List.mem_append_right _ (List.mem_append_right _ (List.mem_append_right _ (List.mem_append_right _ (List.mem_append_right _ (List.mem_append_right _ (List.mem_append_right _ (List.mem_append_right _ (List.mem_append_left _ h))))))))))))))))))))) (by decide +kernel)
set_option maxRecDepth 20000 in
theorem gs_9 : GoodIn wsL_law wsL_law0_r10 := goodIn_sub (fun _ h => List.mem_append_left _ (List.mem_append_left _ (List.mem_append_left _ (List.mem_append_left _ (List.mem_append_left _ (List.mem_append_left _ (List.mem_append_left _ (List.mem_append_left _ (List.mem_append_left _ (List.mem_append_left _ (List.mem_append_left _ (List.mem_append_left _ (List.mem_append_right _ (List.mem_append_right _ (List.mem_append_right _ (List.mem_append_right _ (List.mem_append_right _ (List.mem_append_right _ (List.mem_append_right _ (List.mem_append_right _ (List.mem_append_right _ (List.mem_append_left _ h)))))))))))))))))))))) (by decide +kernel)
set_option maxRecDepth 20000 in
theorem gs_10 : GoodIn wsL_law wsL_law0_r11 := goodIn_sub (fun _ h => List.mem_append_left _ (List.mem_append_left _ (List.mem_append_left _ (List.mem_append_left _ (List.mem_append_left _ (List.mem_append_left _ (List.mem_append_left _ (List.mem_append_left _ (List.mem_append_left _ (List.mem_append_left _ (List.mem_append_left _ (List.mem_append_left _ (List.mem_append_right _ (List.mem_append_right _ (List.mem_append_right _ (List.mem_append_right _ (List.mem_append_right _ (List.mem_append_right _ (List.mem_append_right _ (List.mem_append_right _ (List.mem_append_right _ (List.mem_append_right _ (List.mem_append_left _ h))))))))))))))))))))))) (by decide +kernel)
set_option maxRecDepth 20000 in
theorem gs_11 : GoodIn wsL_law wsL_law0_r12 := goodIn_sub (fun _ h => List.mem_append_left _ (List.mem_append_left _ (List.mem_append_left _ (List.mem_append_left _ (List.mem_append_left _ (List.mem_append_left _ (List.mem_append_left _ (List.mem_append_left _ (List.mem_append_left _ (List.mem_append_left _ (List.mem_append_left _ (List.mem_append_left _ (List.mem_append_right _ (List.mem_append_right _ (List.mem_append_right _ (List.mem_append_right _ (List.mem_append_right _ (List.mem_append_right _ (List.mem_append_right _ (List.mem_append_right _ (List.mem_append_right _ (List.mem_append_right _ (List.mem_append_right _ (List.mem_append_left _ h)))))))))))))))))))))))) (by decide +kernel)
set_option maxRecDepth 20000 in
theorem gs_12 : GoodIn wsL_law wsL_law0_r13 := goodIn_sub (fun _ h => List.mem_append_left _ (List.mem_append_left _ (List.mem_append_left _ (List.mem_append_left _ (List.mem_append_left _ (List.mem_append_left _ (List.mem_append_left _ (List.mem_append_left _ (List.mem_append_left _ (List.mem_append_left _ (List.mem_append_left _ (List.mem_append_left _ (List.mem_append_right _ (List.mem_append_right _ (List.mem_append_right _ (List.mem_append_right _ (List.mem_append_right _ (List.mem_append_right _ (List.mem_append_right _ (List.mem_append_right _ (List.mem_append_right _ (List.mem_append_right _ (List.mem_append_right _ (List.mem_append_right _ (List.mem_append_left _ h))))))))))))))))))))))))) (by decide +kernel)
set_option maxRecDepth 20000 in
theorem gs_13 : GoodIn wsL_law wsL_law0_r14 := goodIn_sub (fun _ h => List.mem_append_left _ (List.mem_append_left _ (List.mem_append_left _ (List.mem_append_left _ (List.mem_append_left _ (List.mem_append_left _ (List.mem_append_left _ (List.mem_append_left _ (List.mem_append_left _ (List.mem_append_left _ (List.mem_append_left _ (List.mem_append_left _ (List.mem_append_right _ (List.mem_append_right _ (List.mem_append_right _ (List.mem_append_right _ (List.mem_append_right _ (List.mem_append_right _ (List.mem_append_right _ (List.mem_append_right _ (List.mem_append_right _ (List.mem_append_right _ (List.mem_append_right _ (List.mem_append_right _ (List.mem_append_right _ (List.mem_append_left _ h)))))))))))))))))))))))))) (by decide +kernel)
set_option maxRecDepth 20000 in
theorem gs_14 : GoodIn wsL_law wsL_law0_r15 := goodIn_sub (fun _ h => List.mem_append_left _ (List.mem_append_left _ (List.mem_append_left _ (List.mem_append_left _ (List.mem_append_left _ (List.mem_append_left _ (List.mem_append_left _ (List.mem_append_left _ (List.mem_append_left _ (List.mem_append_left _ (List.mem_append_left _ (List.mem_append_left _ (List.mem_append_right _ (List.mem_append_right _ (List.mem_append_right _ (List.mem_append_right _ (List.mem_append_right _ (List.mem_append_right _ (List.mem_append_right _ (List.mem_append_right _ (List.mem_append_right _ (List.mem_append_right _ (List.mem_append_right _ (List.mem_append_right _ (List.mem_append_right _ (List.mem_append_right _ (List.mem_append_left _ h))))))))))))))))))))))))))) (by decide +kernel)
set_option maxRecDepth 20000 in
theorem gs_15 : GoodIn wsL_law wsL_law0_r16 := goodIn_sub (fun _ h => List.mem_append_left _ (List.mem_append_left _ (List.mem_append_left _ (List.mem_append_left _ (List.mem_append_left _ (List.mem_append_left _ (List.mem_append_left _ (List.mem_append_left _ (List.mem_append_left _ (List.mem_append_left _ (List.mem_append_left _ (List.mem_append_left _ (List.mem_append_right _ (List.mem_append_right _ (List.mem_append_right _ (List.mem_append_right _ (List.mem_append_right _ (List.mem_append_right _ (List.mem_append_right _ (List.mem_append_right _ (List.mem_append_right _ (List.mem_append_right _ (List.mem_append_right _ (List.mem_append_right _ (List.mem_append_right _ (List.mem_append_right _ (List.mem_append_right _ (List.mem_append_left _ h)))))))))))))))))))))))))))) (by decide +kernel)
set_option maxRecDepth 20000 in
theorem gs_16 : GoodIn wsL_law wsL_law0_r17 := goodIn_sub (fun _ h => List.mem_append_left _ (List.mem_append_left _ (List.mem_append_left _ (List.mem_append_left _ (List.mem_append_left _ (List.mem_append_left _ (List.mem_append_left _ (List.mem_append_left _ (List.mem_append_left _ (List.mem_append_left _ (List.mem_append_left _ (List.mem_append_left _ (List.mem_append_right _ (List.mem_append_right _ (List.mem_append_right _ (List.mem_append_right _ (List.mem_append_right _ (List.mem_append_right _ (List.mem_append_right _ (List.mem_append_right _ (List.mem_append_right _ (List.mem_append_right _ (List.mem_append_right _ (List.mem_append_right _ (List.mem_append_right _ (List.mem_append_right _ (List.mem_append_right _ (List.mem_append_right _ (List.mem_append_left _ h))))))))))))))))))))))))))))) (by decide +kernel)
set_option maxRecDepth 20000 in
theorem gs_17 : GoodIn wsL_law wsL_law0_r18 := goodIn_sub (fun _ h => List.mem_append_left _ (List.mem_append_left _ (List.mem_append_left _ (List.mem_append_left _ (List.mem_append_left _ (List.mem_append_left _ (List.mem_append_left _ (List.mem_append_left _ (List.mem_append_left _ (List.mem_append_left _ (List.mem_append_left _ (List.mem_append_left _ (List.mem_append_right _ (List.mem_append_right _ (List.mem_append_right _ (List.mem_append_right _ (List.mem_append_right _ (List.mem_append_right _ (List.mem_append_right _ (List.mem_append_right _ (List.mem_append_right _ (List.mem_append_right _ (List.mem_append_right _ (List.mem_append_right _ (List.mem_append_right _ (List.mem_append_right _ (List.mem_append_right _ (List.mem_append_right _ (List.mem_append_right _ (List.mem_append_left _ h)))))))))))))))))))))))))))))) (by decide +kernel)
set_option maxRecDepth 20000 in
theorem gs_18 : GoodIn wsL_law wsL_law0_r19 := goodIn_sub (fun _ h => List.mem_append_left _ (List.mem_append_left _ (List.mem_append_left _ (List.mem_append_left _ (List.mem_append_left _ (List.mem_append_left _ (List.mem_append_left _ (List.mem_append_left _ (List.mem_append_left _ (List.mem_append_left _ (List.mem_append_left _ (List.mem_append_left _ (List.mem_append_right _ (List.mem_append_right _ (List.mem_append_right _ (List.mem_append_right _ (List.mem_append_right _ (List.mem_append_right _ (List.mem_append_right _ (List.mem_append_right _ (List.mem_append_right _ (List.mem_append_right _ (List.mem_append_right _ (List.mem_append_right _ (List.mem_append_right _ (List.mem_append_right _ (List.mem_append_right _ (List.mem_append_right _ (List.mem_append_right _ (List.mem_append_right _ (List.mem_append_left _ h))))))))))))))))))))))))))))))) (by decide +kernel)
set_option maxRecDepth 20000 in
theorem gs_19 : GoodIn wsL_law wsL_law0_r20 := goodIn_sub (fun _ h => List.mem_append_left _ (List.mem_append_left _ (List.mem_append_left _ (List.mem_append_left _ (List.mem_append_left _ (List.mem_append_left _ (List.mem_append_left _ (List.mem_append_left _ (List.mem_append_left _ (List.mem_append_left _ (List.mem_append_left _ (List.mem_append_left _ (List.mem_append_right _ (List.mem_append_right _ (List.mem_append_right _ (List.mem_append_right _ (List.mem_append_right _ (List.mem_append_right _ (List.mem_append_right _ (List.mem_append_right _ (List.mem_append_right _ (List.mem_append_right _ (List.mem_append_right _ (List.mem_append_right _ (List.mem_append_right _ (List.mem_append_right _ (List.mem_append_right _ (List.mem_append_right _ (List.mem_append_right _ (List.mem_append_right _ (List.mem_append_right _ (List.mem_append_left _ h)))))))))))))))))))))))))))))))) (by decide +kernel)
set_option maxRecDepth 20000 in
theorem gs_20 : GoodIn wsL_law wsL_law0_r21 := goodIn_sub (fun _ h => List.mem_append_left _ (List.mem_append_left _ (List.mem_append_left _ (List.mem_append_left _ (List.mem_append_left _ (List.mem_append_left _ (List.mem_append_left _ (List.mem_append_left _ (List.mem_append_left _ (List.mem_append_left _ (List.mem_append_left _ (List.mem_append_left _ (List.mem_append_right _ (List.mem_append_right _ (List.mem_append_right _ (List.mem_append_right _ (List.mem_append_right _ (List.mem_append_right _ (List.mem_append_right _ (List.mem_append_right _ (List.mem_append_right _ (List.mem_append_right _ (List.mem_append_right _ (List.mem_append_right _ (List.mem_append_right _ (List.mem_append_right _ (List.mem_append_right _ (List.mem_append_right _ (List.mem_append_right _ (List.mem_append_right _ (List.mem_append_right _ (List.mem_append_right _ (List.mem_append_left _ h))))))))))))))))))))))))))))))))) (by decide +kernel)
set_option maxRecDepth 20000 in
theorem gs_21 : GoodIn wsL_law wsL_law0_r22 := goodIn_sub (fun _ h => List.mem_append_left _ (List.mem_append_left _ (List.mem_append_left _ (List.mem_append_left _ (List.mem_append_left _ (List.mem_append_left _ (List.mem_append_left _ (List.mem_append_left _ (List.mem_append_left _ (List.mem_append_left _ (List.mem_append_left _ (List.mem_append_left _ (List.mem_append_right _ (List.mem_append_right _ (List.mem_append_right _ (List.mem_append_right _ (List.mem_append_right _ (List.mem_append_right _ (List.mem_append_right _ (List.mem_append_right _ (List.mem_append_right _ (List.mem_append_right _ (List.mem_append_right _ (List.mem_append_right _ (List.mem_append_right _ (List.mem_append_right _ (List.mem_append_right _ (List.mem_append_right _ (List.mem_append_right _ (List.mem_append_right _ (List.mem_append_right _ (List.mem_append_right _ (List.mem_append_right _ (List.mem_append_left _ h)))))))))))))))))))))))))))))))))) (by decide +kernel)
set_option maxRecDepth 20000 in
theorem gs_22 : GoodIn wsL_law wsL_law0_r23 := goodIn_sub (fun _ h => List.mem_append_left _ (List.mem_append_left _ (List.mem_append_left _ (List.mem_append_left _ (List.mem_append_left _ (List.mem_append_left _ (List.mem_append_left _ (List.mem_append_left _ (List.mem_append_left _ (List.mem_append_left _ (List.mem_append_left _ (List.mem_append_left _ (List.mem_append_right _ (List.mem_append_right _ (List.mem_append_right _ (List.mem_append_right _ (List.mem_append_right _ (List.mem_append_right _ (List.mem_append_right _ (List.mem_append_right _ (List.mem_append_right _ (List.mem_append_right _ (List.mem_append_right _ (List.mem_append_right _ (List.mem_append_right _ (List.mem_append_right _ (List.mem_append_right _ (List.mem_append_right _ (List.mem_append_right _ (List.mem_append_right _ (List.mem_append_right _ (List.mem_append_right _ (List.mem_append_right _ (List.mem_append_right _ (List.mem_append_left _ h))))))))))))))))))))))))))))))))))) (by decide +kernel)
set_option maxRecDepth 20000 in
theorem gs_23 : GoodIn wsL_law wsL_law0_r24 := goodIn_sub (fun _ h => List.mem_append_left _ (List.mem_append_left _ (List.mem_append_left _ (List.mem_append_left _ (List.mem_append_left _ (List.mem_append_left _ (List.mem_append_left _ (List.mem_append_left _ (List.mem_append_left _ (List.mem_append_left _ (List.mem_append_left _ (List.mem_append_left _ (List.mem_append_right _ (List.mem_append_right _ (List.mem_append_right _ (List.mem_append_right _ (List.mem_append_right _ (List.mem_append_right _ (List.mem_append_right _ (List.mem_append_right _ (List.mem_append_right _ (List.mem_append_right _ (List.mem_append_right _ (List.mem_append_right _ (List.mem_append_right _ (List.mem_append_right _ (List.mem_append_right _ (List.mem_append_right _ (List.mem_append_right _ (List.mem_append_right _ (List.mem_append_right _ (List.mem_append_right _ (List.mem_append_right _ (List.mem_append_right _ (List.mem_append_right _ (h)))))))))))))))))))))))))))))))))))) (by decide +kernel)
set_option maxRecDepth 20000 in
theorem gf_wsX70 : GoodIn wsL_law wsX70 := goodIn_sub (fun _ h => List.mem_append_left _ (List.mem_append_left _ (List.mem_append_left _ (List.mem_append_left _ (List.mem_append_left _ (List.mem_append_left _ (List.mem_append_left _ (List.mem_append_left _ (List.mem_append_left _ (List.mem_append_left _ (List.mem_append_left _ (List.mem_append_right _ h)))))))))))) (by decide +kernel)
set_option maxRecDepth 20000 in
theorem gf_wsX00 : GoodIn wsL_law wsX00 := goodIn_sub (fun _ h => List.mem_append_left _ (List.mem_append_left _ (List.mem_append_left _ (List.mem_append_left _ (List.mem_append_left _ (List.mem_append_left _ (List.mem_append_left _ (List.mem_append_left _ (List.mem_append_left _ (List.mem_append_left _ (List.mem_append_right _ h))))))))))) (by decide +kernel)
set_option maxRecDepth 20000 in
theorem gf_wsX50 : GoodIn wsL_law wsX50 := goodIn_sub (fun _ h => List.mem_append_left _ (List.mem_append_left _ (List.mem_append_left _ (List.mem_append_left _ (List.mem_append_left _ (List.mem_append_left _ (List.mem_append_left _ (List.mem_append_left _ (List.mem_append_left _ (List.mem_append_right _ h)))))))))) (by decide +kernel)
set_option maxRecDepth 20000 in
theorem gf_wsX30 : GoodIn wsL_law wsX30 := goodIn_sub (fun _ h => List.mem_append_left _ (List.mem_append_left _ (List.mem_append_left _ (List.mem_append_left _ (List.mem_append_left _ (List.mem_append_left _ (List.mem_append_left _ (List.mem_append_left _ (List.mem_append_right _ h))))))))) (by decide +kernel)
set_option maxRecDepth 20000 in
theorem gf_wsX10 : GoodIn wsL_law wsX10 := goodIn_sub (fun _ h => List.mem_append_left _ (List.mem_append_left _ (List.mem_append_left _ (List.mem_append_left _ (List.mem_append_left _ (List.mem_append_left _ (List.mem_append_left _ (List.mem_append_right _ h)))))))) (by decide +kernel)
set_option maxRecDepth 20000 in
theorem gf_wsX40 : GoodIn wsL_law wsX40 := goodIn_sub (fun _ h => List.mem_append_left _ (List.mem_append_left _ (List.mem_append_left _ (List.mem_append_left _ (List.mem_append_left _ (List.mem_append_left _ (List.mem_append_right _ h))))))) (by decide +kernel)
set_option maxRecDepth 20000 in
theorem gf_wsX20 : GoodIn wsL_law wsX20 := goodIn_sub (fun _ h => List.mem_append_left _ (List.mem_append_left _ (List.mem_append_left _ (List.mem_append_left _ (List.mem_append_left _ (List.mem_append_right _ h)))))) (by decide +kernel)
set_option maxRecDepth 20000 in
theorem gf_wsX60 : GoodIn wsL_law wsX60 := goodIn_sub (fun _ h => List.mem_append_left _ (List.mem_append_left _ (List.mem_append_left _ (List.mem_append_left _ (List.mem_append_right _ h))))) (by decide +kernel)
set_option maxRecDepth 20000 in
theorem gv_0 : GoodIn wsL_law ((vx_atS RX7 56 "java/lang/IllegalArgumentException" ["java/lang/RuntimeException", "java/lang/Exception"]).filter goodWord) := goodIn_sub (fun _ h => List.mem_append_left _ (List.mem_append_left _ (List.mem_append_right _ h))) (by decide +kernel)
set_option maxRecDepth 20000 in
theorem gv_1 : GoodIn wsL_law ((vx_atS RX7 74 "java/lang/IllegalStateException" ["java/lang/RuntimeException", "java/lang/Exception"]).filter goodWord) := goodIn_sub (fun _ h => List.mem_append_left _ (List.mem_append_right _ h)) (by decide +kernel)
set_option maxRecDepth 20000 in
theorem gv_2 : GoodIn wsL_law ((vx_atS RX7 101 "java/lang/IndexOutOfBoundsException" ["java/lang/RuntimeException", "java/lang/Exception"]).filter goodWord) := goodIn_sub (fun _ h => List.mem_append_right _ h) (by decide +kernel)
theorem g_self : GoodIn wsL_law wsL_law := (goodIn_app (goodIn_app (goodIn_app (goodIn_app (goodIn_app (goodIn_app (goodIn_app (goodIn_app (goodIn_app (goodIn_app (goodIn_app (goodIn_app (goodIn_app gs_0 (goodIn_app gs_1 (goodIn_app gs_2 (goodIn_app gs_3 (goodIn_app gs_4 (goodIn_app gs_5 (goodIn_app gs_6 (goodIn_app gs_7 (goodIn_app gs_8 (goodIn_app gs_9 (goodIn_app gs_10 (goodIn_app gs_11 (goodIn_app gs_12 (goodIn_app gs_13 (goodIn_app gs_14 (goodIn_app gs_15 (goodIn_app gs_16 (goodIn_app gs_17 (goodIn_app gs_18 (goodIn_app gs_19 (goodIn_app gs_20 (goodIn_app gs_21 (goodIn_app gs_22 gs_23))))))))))))))))))))))) gf_wsX70) gf_wsX00) gf_wsX50) gf_wsX30) gf_wsX10) gf_wsX40) gf_wsX20) gf_wsX60) goodIn_nil) gv_0) gv_1) gv_2)
set_option maxRecDepth 20000 in
theorem gg_act_r1 : GoodIn wsL_law wsL_act_r1 := goodIn_r _ [158, 159, 160, 161, 162, 163, 2, 164, 128, 129, 165, 166, 20, 16, 167, 168, 169, 170, 171, 172, 15, 173, 174, 175] (by decide +kernel) (by decide +kernel)
set_option maxRecDepth 20000 in
theorem gg_act_r2 : GoodIn wsL_law wsL_act_r2 := goodIn_r _ [176, 177, 37, 178, 179, 180, 181, 137, 138, 182, 183, 184, 185, 186, 19, 187, 45, 188, 189, 190, 44, 191, 52, 51] (by decide +kernel) (by decide +kernel)
set_option maxRecDepth 20000 in
theorem gg_act_r3 : GoodIn wsL_law wsL_act_r3 := goodIn_r _ [192, 193, 194, 195, 96, 97, 98, 99, 100, 101, 102, 103, 196, 197, 198, 199, 38, 200, 201, 202, 203, 36, 204, 205] (by decide +kernel) (by decide +kernel)
set_option maxRecDepth 20000 in
theorem gg_act_r4 : GoodIn wsL_law wsL_act_r4 := goodIn_r _ [206, 207, 208, 209, 210, 211, 212, 213, 46, 47, 214, 215, 216, 217, 218, 219, 220, 221, 222, 223, 224, 225, 226, 227] (by decide +kernel) (by decide +kernel)
set_option maxRecDepth 20000 in
theorem gg_act_r5 : GoodIn wsL_law wsL_act_r5 := goodIn_r _ [228, 229, 230, 231, 232, 233, 234, 235, 236, 237, 238, 239, 240, 241, 242, 243, 244, 245, 246, 247, 248, 249, 250, 251] (by decide +kernel) (by decide +kernel)
set_option maxRecDepth 20000 in
theorem gg_act_r6 : GoodIn wsL_law wsL_act_r6 := goodIn_r _ [252, 253, 254, 255, 256, 257, 258, 259, 260, 261, 262, 263, 264, 265, 266, 267, 268, 269, 270, 108, 109, 110, 111, 271] (by decide +kernel) (by decide +kernel)
set_option maxRecDepth 20000 in
theorem gg_act_r7 : GoodIn wsL_law wsL_act_r7 := goodIn_r _ [272, 273, 274, 275, 276, 277, 278, 279, 280, 281, 282, 283, 284, 285, 286, 287, 288, 289, 290, 291, 292, 293, 294, 295] (by decide +kernel) (by decide +kernel)
set_option maxRecDepth 20000 in
theorem gg_act_r8 : GoodIn wsL_law wsL_act_r8 := goodIn_r _ [296, 297, 298, 299, 300, 301, 24, 302, 303, 304, 305, 306, 307, 23, 308, 62, 309, 310, 311, 312, 313, 314, 315, 316] (by decide +kernel) (by decide +kernel)
set_option maxRecDepth 20000 in
theorem gg_act_r9 : GoodIn wsL_law wsL_act_r9 := goodIn_r _ [60, 61, 59, 317, 318, 319, 58, 320, 66, 68, 321, 322, 323, 324, 325, 326, 327, 328, 329, 330, 331, 332, 333, 334] (by decide +kernel) (by decide +kernel)
set_option maxRecDepth 20000 in
theorem gg_act_r10 : GoodIn wsL_law wsL_act_r10 := goodIn_r _ [335, 336, 67, 69, 337, 338, 339, 340, 341, 134, 135, 342, 343, 344, 345, 140, 141, 142, 143, 144, 346, 347, 348, 349] (by decide +kernel) (by decide +kernel)
set_option maxRecDepth 20000 in
theorem gg_act_r11 : GoodIn wsL_law wsL_act_r11 := goodIn_r _ [350, 351, 352, 353, 354, 355, 356, 357, 358, 359, 360, 361, 362, 363, 364, 365, 366, 367, 368, 369, 370, 87, 88, 89] (by decide +kernel) (by decide +kernel)
set_option maxRecDepth 20000 in
theorem gg_act_r12 : GoodIn wsL_law wsL_act_r12 := goodIn_r _ [371, 372, 373, 374, 375, 376, 377, 378, 379, 380, 381, 382, 383, 28, 384, 385, 386, 387, 388, 389, 390, 27, 391, 76] (by decide +kernel) (by decide +kernel)
set_option maxRecDepth 20000 in
theorem gg_act_r13 : GoodIn wsL_law wsL_act_r13 := goodIn_r _ [77, 392, 393, 394, 75, 395, 396, 397, 398, 399, 83, 84, 85, 400, 401, 402, 403, 91, 404, 405, 406, 407, 90, 408] (by decide +kernel) (by decide +kernel)
set_option maxRecDepth 20000 in
theorem gg_act_r14 : GoodIn wsL_law wsL_act_r14 := goodIn_r _ [409, 410, 411, 412, 413, 414, 415, 416, 417, 418, 419, 420, 421, 422, 423, 424, 425, 426, 427, 428, 429, 430, 431, 432] (by decide +kernel) (by decide +kernel)
set_option maxRecDepth 20000 in
theorem gg_act_r15 : GoodIn wsL_law wsL_act_r15 := goodIn_r _ [82, 433, 434, 133, 435, 436, 437, 438, 439, 440, 441, 442, 443, 444, 445, 446, 447, 448, 449, 450, 451, 452, 453, 454] (by decide +kernel) (by decide +kernel)
set_option maxRecDepth 20000 in
theorem gg_act_r16 : GoodIn wsL_law wsL_act_r16 := goodIn_r _ [32, 31, 30, 455, 456, 457, 458, 459, 460, 461, 462, 463, 464, 465, 466, 467, 468, 469, 470, 471, 472, 473, 474, 475] (by decide +kernel) (by decide +kernel)
set_option maxRecDepth 20000 in
theorem gg_act_r17 : GoodIn wsL_law wsL_act_r17 := goodIn_r _ [476, 477, 478, 479, 480, 481, 482, 483, 484, 485, 486, 487, 488, 489, 490, 491, 492, 493, 494, 495, 496, 497, 498, 499] (by decide +kernel) (by decide +kernel)
set_option maxRecDepth 20000 in
theorem gg_act_r18 : GoodIn wsL_law wsL_act_r18 := goodIn_r _ [500, 501, 502, 503, 504, 505, 506, 507, 508, 509, 510, 511, 512, 513, 514, 130, 131, 132, 136, 139, 124, 125, 126, 127] (by decide +kernel) (by decide +kernel)
set_option maxRecDepth 20000 in
theorem gg_act_r19 : GoodIn wsL_law wsL_act_r19 := goodIn_r _ [145, 146, 147, 148, 149, 150, 151] (by decide +kernel) (by decide +kernel)
set_option maxRecDepth 20000 in
theorem gg_act_h : GoodIn wsL_law [.codeWith yL_act cL_act 6 (some .int) [(0, 224, 225, 59), (0, 224, 230, 61), (0, 224, 235, 63)]] := goodIn_r _ [157] (by decide +kernel) (by decide +kernel)
theorem gg_act : GoodIn wsL_law wsL_act := goodIn_c gg_act_h (goodIn_app (goodIn_app (goodIn_app (goodIn_app (goodIn_app (goodIn_app (goodIn_app (goodIn_app (goodIn_app (goodIn_app (goodIn_app (goodIn_app gg_act_r1 (goodIn_app gg_act_r2 (goodIn_app gg_act_r3 (goodIn_app gg_act_r4 (goodIn_app gg_act_r5 (goodIn_app gg_act_r6 (goodIn_app gg_act_r7 (goodIn_app gg_act_r8 (goodIn_app gg_act_r9 (goodIn_app gg_act_r10 (goodIn_app gg_act_r11 (goodIn_app gg_act_r12 (goodIn_app gg_act_r13 (goodIn_app gg_act_r14 (goodIn_app gg_act_r15 (goodIn_app gg_act_r16 (goodIn_app gg_act_r17 (goodIn_app gg_act_r18 gg_act_r19)))))))))))))))))) gf_wsX70) gf_wsX00) gf_wsX50) gf_wsX40) gf_wsX30) gf_wsX20) gf_wsX10) gf_wsX60) gv_0) gv_1) gv_2)
theorem gg_state : GoodIn wsL_law wsX7_state := goodIn_trans gg_act ggL_act_X7_state
theorem gg_takeBack : GoodIn wsL_law wsX7_takeBack := goodIn_trans gg_act ggL_act_X7_takeBack
theorem gg_termAt : GoodIn wsL_law wsX7_termAt := goodIn_trans gg_act ggL_act_X7_termAt
theorem gg_numberOf : GoodIn wsL_law wsX7_numberOf := goodIn_trans gg_act ggL_act_X7_numberOf
theorem gg_termOf : GoodIn wsL_law wsX7_termOf := goodIn_trans gg_act ggL_act_X7_termOf
theorem gg_count : GoodIn wsL_law wsX7_count := goodIn_trans gg_act ggL_act_X7_count
theorem gg_seek : GoodIn wsL_law wsX7_seek := goodIn_trans gg_act ggL_act_X7_seek
theorem gg_addPattern : GoodIn wsL_law wsX7_addPattern := goodIn_trans gg_act ggL_act_X7_addPattern
theorem gg_matches : GoodIn wsL_law wsX7_matches := goodIn_trans gg_act ggL_act_X7_matches
theorem gg_joined : GoodIn wsL_law wsX7_joined := goodIn_trans gg_act ggL_act_X7_joined
theorem gg_answerByMerging : GoodIn wsL_law wsX7_answerByMerging := goodIn_trans gg_act ggL_act_X7_answerByMerging
theorem gg_answerByVariables : GoodIn wsL_law wsX7_answerByVariables := goodIn_trans gg_act ggL_act_X7_answerByVariables
theorem gg_answerByLoops : GoodIn wsL_law wsX7_answerByLoops := goodIn_trans gg_act ggL_act_X7_answerByLoops
theorem gg_answer : GoodIn wsL_law wsX7_answer := goodIn_trans gg_act ggL_act_X7_answer
theorem gg_termsFor : GoodIn wsL_law wsX7_termsFor := goodIn_trans gg_act ggL_act_X7_termsFor
set_option maxRecDepth 20000 in
theorem gg_init_r1 : GoodIn wsL_law wsX7_init_r1 := goodIn_r _ [10, 11, 12, 13, 14, 15, 16, 17, 18, 19, 20, 21, 22, 23, 24, 25, 26, 27, 28, 29, 30, 31, 32, 33] (by decide +kernel) (by decide +kernel)
set_option maxRecDepth 20000 in
theorem gg_init_r2 : GoodIn wsL_law wsX7_init_r2 := goodIn_r _ [34, 35, 36, 37, 38, 39, 40, 41, 42, 43, 44, 45, 46, 47, 48, 49, 50, 51, 52, 53, 54, 55, 56, 57] (by decide +kernel) (by decide +kernel)
set_option maxRecDepth 20000 in
theorem gg_init_r3 : GoodIn wsL_law wsX7_init_r3 := goodIn_r _ [58, 59, 60, 61, 62, 63, 64, 65, 66, 67, 68, 69, 70, 71, 72, 73, 74, 75, 76, 77, 78, 79, 80, 81] (by decide +kernel) (by decide +kernel)
set_option maxRecDepth 20000 in
theorem gg_init_r4 : GoodIn wsL_law wsX7_init_r4 := goodIn_r _ [82, 83, 84, 85, 86, 87, 88, 89, 90, 91] (by decide +kernel) (by decide +kernel)
set_option maxRecDepth 20000 in
theorem gg_init_h : GoodIn wsL_law [.code yX7_init cX7_init 1 none] := goodIn_r _ [9] (by decide +kernel) (by decide +kernel)
theorem gg_init : GoodIn wsL_law wsX7_init := goodIn_c gg_init_h (goodIn_app (goodIn_app (goodIn_app (goodIn_app (goodIn_app (goodIn_app (goodIn_app (goodIn_app (goodIn_app gg_init_r1 (goodIn_app gg_init_r2 (goodIn_app gg_init_r3 gg_init_r4))) gf_wsX00) gf_wsX70) gf_wsX50) gf_wsX30) gf_wsX10) gf_wsX40) gf_wsX20) gf_wsX60)
set_option maxRecDepth 20000 in
theorem gg_triples_b : GoodIn wsL_law ([.fieldLink RX7 19 "TripleJoins" "store" "LTripleJoins$Store;", .methodLink RX7 66 yX5_size, .instanceMethod yX5_size, .selects RX5 yX5_size yX5_size, .initialized RX5, .code yX5_size cX5_size 1 (some .int), .fieldLink RX5 12 "TripleJoins$Store" "bySubject" "LTripleJoins$Sorted;", .methodLink RX5 24 yX4_size, .instanceMethod yX4_size, .selects RX4 yX4_size yX4_size, .initialized RX4, .code yX4_size cX4_size 1 (some .int), .fieldLink RX4 15 "TripleJoins$Sorted" "size" "I"] : List Cond) := goodIn_r _ [20, 96, 97, 98, 19, 99, 45, 100, 101, 102, 44, 103, 52] (by decide +kernel) (by decide +kernel)
set_option maxRecDepth 20000 in
theorem gg_triples_h : GoodIn wsL_law [.code yX7_triples cX7_triples 1 (some .int)] := goodIn_r _ [95] (by decide +kernel) (by decide +kernel)
theorem gg_triples : GoodIn wsL_law wsX7_triples := goodIn_c gg_triples_h (goodIn_app (goodIn_app (goodIn_app gg_triples_b gf_wsX70) gf_wsX50) gf_wsX40)
set_option maxRecDepth 20000 in
theorem gg_terms_b : GoodIn wsL_law ([.fieldLink RX7 10 "TripleJoins" "dictionary" "LTripleJoins$Dictionary;", .methodLink RX7 113 yX0_size, .instanceMethod yX0_size, .selects RX0 yX0_size yX0_size, .initialized RX0, .code yX0_size cX0_size 1 (some .int), .fieldLink RX0 18 "TripleJoins$Dictionary" "size" "I"] : List Cond) := goodIn_r _ [16, 108, 109, 110, 15, 111, 38] (by decide +kernel) (by decide +kernel)
set_option maxRecDepth 20000 in
theorem gg_terms_h : GoodIn wsL_law [.code yX7_terms cX7_terms 1 (some .int)] := goodIn_r _ [107] (by decide +kernel) (by decide +kernel)
theorem gg_terms : GoodIn wsL_law wsX7_terms := goodIn_c gg_terms_h (goodIn_app (goodIn_app gg_terms_b gf_wsX70) gf_wsX00)
set_option maxRecDepth 20000 in
theorem gg_patterns_b : GoodIn wsL_law ([.fieldLink RX7 26 "TripleJoins" "query" "LTripleJoins$Query;", .methodLink RX7 153 yX3_size, .instanceMethod yX3_size, .selects RX3 yX3_size yX3_size, .initialized RX3, .code yX3_size cX3_size 1 (some .int), .fieldLink RX3 22 "TripleJoins$Query" "size" "I"] : List Cond) := goodIn_r _ [24, 305, 306, 307, 23, 308, 62] (by decide +kernel) (by decide +kernel)
set_option maxRecDepth 20000 in
theorem gg_patterns_h : GoodIn wsL_law [.code yX7_patterns cX7_patterns 1 (some .int)] := goodIn_r _ [522] (by decide +kernel) (by decide +kernel)
theorem gg_patterns : GoodIn wsL_law wsX7_patterns := goodIn_c gg_patterns_h (goodIn_app (goodIn_app gg_patterns_b gf_wsX70) gf_wsX30)
set_option maxRecDepth 20000 in
theorem gg_answers_b : GoodIn wsL_law ([.fieldLink RX7 41 "TripleJoins" "keptSize" "I"] : List Cond) := goodIn_r _ [31] (by decide +kernel) (by decide +kernel)
set_option maxRecDepth 20000 in
theorem gg_answers_h : GoodIn wsL_law [.code yX7_answers cX7_answers 1 (some .int)] := goodIn_r _ [115] (by decide +kernel) (by decide +kernel)
theorem gg_answers : GoodIn wsL_law wsX7_answers := goodIn_c gg_answers_h (goodIn_app gg_answers_b gf_wsX70)
set_option maxRecDepth 20000 in
theorem gg_variables_b : GoodIn wsL_law ([.fieldLink RX7 26 "TripleJoins" "query" "LTripleJoins$Query;", .methodLink RX7 174 yX3_variableBits, .instanceMethod yX3_variableBits, .selects RX3 yX3_variableBits yX3_variableBits, .initialized RX3, .code yX3_variableBits cX3_variableBits 3 (some .int), .fieldLink RX3 22 "TripleJoins$Query" "size" "I", .methodLink RX3 26 yX3_pattern, .instanceMethod yX3_pattern, .selects RX3 yX3_pattern yX3_pattern, .code yX3_pattern cX3_pattern 2 (some (.object "TripleJoins$Pattern")), .fieldLink RX3 16 "TripleJoins$Query" "second" "LTripleJoins$Pattern;", .fieldLink RX3 19 "TripleJoins$Query" "third" "LTripleJoins$Pattern;", .fieldLink RX3 10 "TripleJoins$Query" "first" "LTripleJoins$Pattern;", .methodLink RX3 38 yX2_variableBits, .instanceMethod yX2_variableBits, .selects RX2 yX2_variableBits yX2_variableBits, .initialized RX2, .code yX2_variableBits cX2_variableBits 1 (some .int), .fieldLink RX2 18 "TripleJoins$Pattern" "variableBits" "I"] : List Cond) := goodIn_r _ [24, 461, 462, 463, 23, 464, 62, 313, 314, 315, 316, 60, 61, 59, 375, 376, 377, 58, 378, 68] (by decide +kernel) (by decide +kernel)
set_option maxRecDepth 20000 in
theorem gg_variables_h : GoodIn wsL_law [.code yX7_variables cX7_variables 1 (some .int)] := goodIn_r _ [533] (by decide +kernel) (by decide +kernel)
theorem gg_variables : GoodIn wsL_law wsX7_variables := goodIn_c gg_variables_h (goodIn_app (goodIn_app (goodIn_app gg_variables_b gf_wsX70) gf_wsX30) gf_wsX20)
set_option maxRecDepth 20000 in
theorem gg_shape_r1 : GoodIn wsL_law wsX7_shape_r1 := goodIn_r _ [24, 538, 539, 540, 23, 541, 62, 59, 542, 543, 544, 58, 545, 66, 137, 2, 138, 313, 314, 315, 316, 60, 61, 546] (by decide +kernel) (by decide +kernel)
set_option maxRecDepth 20000 in
theorem gg_shape_r2 : GoodIn wsL_law wsX7_shape_r2 := goodIn_r _ [547, 548, 549] (by decide +kernel) (by decide +kernel)
set_option maxRecDepth 20000 in
theorem gg_shape_h : GoodIn wsL_law [.code yX7_shape cX7_shape 1 (some .int)] := goodIn_r _ [537] (by decide +kernel) (by decide +kernel)
theorem gg_shape : GoodIn wsL_law wsX7_shape := goodIn_c gg_shape_h (goodIn_app (goodIn_app (goodIn_app (goodIn_app gg_shape_r1 gg_shape_r2) gf_wsX70) gf_wsX30) gf_wsX20)
set_option maxRecDepth 20000 in
theorem gg_forget_b : GoodIn wsL_law ([.fieldLink RX7 26 "TripleJoins" "query" "LTripleJoins$Query;", .methodLink RX7 145 yX3_clear, .instanceMethod yX3_clear, .selects RX3 yX3_clear yX3_clear, .initialized RX3, .code yX3_clear cX3_clear 2 (some .int), .fieldLink RX3 22 "TripleJoins$Query" "size" "I"] : List Cond) := goodIn_r _ [24, 120, 121, 122, 23, 123, 62] (by decide +kernel) (by decide +kernel)
set_option maxRecDepth 20000 in
theorem gg_forget_h : GoodIn wsL_law [.code yX7_forget cX7_forget 1 (some .int)] := goodIn_r _ [119] (by decide +kernel) (by decide +kernel)
theorem gg_forget : GoodIn wsL_law wsX7_forget := goodIn_c gg_forget_h (goodIn_app (goodIn_app gg_forget_b gf_wsX70) gf_wsX30)
set_option maxRecDepth 20000 in
theorem gg_orderFor_b : GoodIn wsL_law ([.methodLink RX7 127 yX7_maskFor, .static yX7_maskFor, .initialized RX7, .code yX7_maskFor cX7_maskFor 3 (some .int), .methodLink RX7 142 yX7_partShift, .static yX7_partShift, .code yX7_partShift cX7_partShift 1 (some .int), .methodLink RX7 131 yX7_orderOf, .static yX7_orderOf, .code yX7_orderOf cX7_orderOf 4 (some .int), .methodLink RX7 106 yX7_partOf, .static yX7_partOf, .code yX7_partOf cX7_partOf 2 (some .int)] : List Cond) := goodIn_r _ [278, 279, 2, 280, 256, 182, 183, 281, 282, 283, 253, 254, 255] (by decide +kernel) (by decide +kernel)
set_option maxRecDepth 20000 in
theorem gg_orderFor_h : GoodIn wsL_law [.code yX7_orderFor cX7_orderFor 4 (some .int)] := goodIn_r _ [526] (by decide +kernel) (by decide +kernel)
theorem gg_orderFor : GoodIn wsL_law wsX7_orderFor := goodIn_c gg_orderFor_h gg_orderFor_b
set_option maxRecDepth 20000 in
theorem gh_state : GoodIn wsL_law ([.methodLink RL 7 yX7_state, .instanceMethod yX7_state, .selects RX7 yX7_state yX7_state, .initialized RX7] : List Cond) := goodIn_r _ [161, 162, 163, 2] (by decide +kernel) (by decide +kernel)
theorem gB_X7_state : GoodIn wsL_law (wsV RL 7 RX7 yX7_state wsX7_state) := goodIn_app gh_state gg_state
set_option maxRecDepth 20000 in
theorem gh_takeBack : GoodIn wsL_law ([.methodLink RL 13 yX7_takeBack, .instanceMethod yX7_takeBack, .selects RX7 yX7_takeBack yX7_takeBack, .initialized RX7] : List Cond) := goodIn_r _ [221, 222, 223, 2] (by decide +kernel) (by decide +kernel)
theorem gB_X7_takeBack : GoodIn wsL_law (wsV RL 13 RX7 yX7_takeBack wsX7_takeBack) := goodIn_app gh_takeBack gg_takeBack
set_option maxRecDepth 20000 in
theorem gh_termAt : GoodIn wsL_law ([.methodLink RL 16 yX7_termAt, .instanceMethod yX7_termAt, .selects RX7 yX7_termAt yX7_termAt, .initialized RX7] : List Cond) := goodIn_r _ [234, 235, 236, 2] (by decide +kernel) (by decide +kernel)
theorem gB_X7_termAt : GoodIn wsL_law (wsV RL 16 RX7 yX7_termAt wsX7_termAt) := goodIn_app gh_termAt gg_termAt
set_option maxRecDepth 20000 in
theorem gh_numberOf : GoodIn wsL_law ([.methodLink RL 20 yX7_numberOf, .instanceMethod yX7_numberOf, .selects RX7 yX7_numberOf yX7_numberOf, .initialized RX7] : List Cond) := goodIn_r _ [261, 262, 263, 2] (by decide +kernel) (by decide +kernel)
theorem gB_X7_numberOf : GoodIn wsL_law (wsV RL 20 RX7 yX7_numberOf wsX7_numberOf) := goodIn_app gh_numberOf gg_numberOf
set_option maxRecDepth 20000 in
theorem gh_termOf : GoodIn wsL_law ([.methodLink RL 24 yX7_termOf, .instanceMethod yX7_termOf, .selects RX7 yX7_termOf yX7_termOf, .initialized RX7] : List Cond) := goodIn_r _ [267, 268, 269, 2] (by decide +kernel) (by decide +kernel)
theorem gB_X7_termOf : GoodIn wsL_law (wsV RL 24 RX7 yX7_termOf wsX7_termOf) := goodIn_app gh_termOf gg_termOf
set_option maxRecDepth 20000 in
theorem gh_count : GoodIn wsL_law ([.methodLink RL 27 yX7_count, .instanceMethod yX7_count, .selects RX7 yX7_count yX7_count, .initialized RX7] : List Cond) := goodIn_r _ [271, 272, 273, 2] (by decide +kernel) (by decide +kernel)
theorem gB_X7_count : GoodIn wsL_law (wsV RL 27 RX7 yX7_count wsX7_count) := goodIn_app gh_count gg_count
set_option maxRecDepth 20000 in
theorem gh_seek : GoodIn wsL_law ([.methodLink RL 30 yX7_seek, .instanceMethod yX7_seek, .selects RX7 yX7_seek yX7_seek, .initialized RX7] : List Cond) := goodIn_r _ [294, 295, 296, 2] (by decide +kernel) (by decide +kernel)
theorem gB_X7_seek : GoodIn wsL_law (wsV RL 30 RX7 yX7_seek wsX7_seek) := goodIn_app gh_seek gg_seek
set_option maxRecDepth 20000 in
theorem gh_addPattern : GoodIn wsL_law ([.methodLink RL 34 yX7_addPattern, .instanceMethod yX7_addPattern, .selects RX7 yX7_addPattern yX7_addPattern, .initialized RX7] : List Cond) := goodIn_r _ [298, 299, 300, 2] (by decide +kernel) (by decide +kernel)
theorem gB_X7_addPattern : GoodIn wsL_law (wsV RL 34 RX7 yX7_addPattern wsX7_addPattern) := goodIn_app gh_addPattern gg_addPattern
set_option maxRecDepth 20000 in
theorem gh_matches : GoodIn wsL_law ([.methodLink RL 37 yX7_matches, .instanceMethod yX7_matches, .selects RX7 yX7_matches yX7_matches, .initialized RX7] : List Cond) := goodIn_r _ [325, 326, 327, 2] (by decide +kernel) (by decide +kernel)
theorem gB_X7_matches : GoodIn wsL_law (wsV RL 37 RX7 yX7_matches wsX7_matches) := goodIn_app gh_matches gg_matches
set_option maxRecDepth 20000 in
theorem gh_joined : GoodIn wsL_law ([.methodLink RL 40 yX7_joined, .instanceMethod yX7_joined, .selects RX7 yX7_joined yX7_joined, .initialized RX7] : List Cond) := goodIn_r _ [358, 359, 360, 2] (by decide +kernel) (by decide +kernel)
theorem gB_X7_joined : GoodIn wsL_law (wsV RL 40 RX7 yX7_joined wsX7_joined) := goodIn_app gh_joined gg_joined
set_option maxRecDepth 20000 in
theorem gh_answerByMerging : GoodIn wsL_law ([.methodLink RL 43 yX7_answerByMerging, .instanceMethod yX7_answerByMerging, .selects RX7 yX7_answerByMerging yX7_answerByMerging, .initialized RX7] : List Cond) := goodIn_r _ [380, 381, 382, 2] (by decide +kernel) (by decide +kernel)
theorem gB_X7_answerByMerging : GoodIn wsL_law (wsV RL 43 RX7 yX7_answerByMerging wsX7_answerByMerging) := goodIn_app gh_answerByMerging gg_answerByMerging
set_option maxRecDepth 20000 in
theorem gh_answerByVariables : GoodIn wsL_law ([.methodLink RL 47 yX7_answerByVariables, .instanceMethod yX7_answerByVariables, .selects RX7 yX7_answerByVariables yX7_answerByVariables, .initialized RX7] : List Cond) := goodIn_r _ [468, 469, 470, 2] (by decide +kernel) (by decide +kernel)
theorem gB_X7_answerByVariables : GoodIn wsL_law (wsV RL 47 RX7 yX7_answerByVariables wsX7_answerByVariables) := goodIn_app gh_answerByVariables gg_answerByVariables
set_option maxRecDepth 20000 in
theorem gh_answerByLoops : GoodIn wsL_law ([.methodLink RL 50 yX7_answerByLoops, .instanceMethod yX7_answerByLoops, .selects RX7 yX7_answerByLoops yX7_answerByLoops, .initialized RX7] : List Cond) := goodIn_r _ [493, 494, 495, 2] (by decide +kernel) (by decide +kernel)
theorem gB_X7_answerByLoops : GoodIn wsL_law (wsV RL 50 RX7 yX7_answerByLoops wsX7_answerByLoops) := goodIn_app gh_answerByLoops gg_answerByLoops
set_option maxRecDepth 20000 in
theorem gh_answer : GoodIn wsL_law ([.methodLink RL 53 yX7_answer, .instanceMethod yX7_answer, .selects RX7 yX7_answer yX7_answer, .initialized RX7] : List Cond) := goodIn_r _ [511, 512, 513, 2] (by decide +kernel) (by decide +kernel)
theorem gB_X7_answer : GoodIn wsL_law (wsV RL 53 RX7 yX7_answer wsX7_answer) := goodIn_app gh_answer gg_answer
set_option maxRecDepth 20000 in
theorem gh_termsFor : GoodIn wsL_law ([.methodLink RL 56 yX7_termsFor, .instanceMethod yX7_termsFor, .selects RX7 yX7_termsFor yX7_termsFor, .initialized RX7] : List Cond) := goodIn_r _ [124, 125, 126, 2] (by decide +kernel) (by decide +kernel)
theorem gB_X7_termsFor : GoodIn wsL_law (wsV RL 56 RX7 yX7_termsFor wsX7_termsFor) := goodIn_app gh_termsFor gg_termsFor
theorem gB_X7_init : GoodIn wsL_law wsX7_init := gg_init
set_option maxRecDepth 20000 in
theorem gh_triples : GoodIn wsL_law ([.methodLink RL 65 yX7_triples, .instanceMethod yX7_triples, .selects RX7 yX7_triples yX7_triples, .initialized RX7] : List Cond) := goodIn_r _ [92, 93, 94, 2] (by decide +kernel) (by decide +kernel)
theorem gB_X7_triples : GoodIn wsL_law (wsV RL 65 RX7 yX7_triples wsX7_triples) := goodIn_app gh_triples gg_triples
set_option maxRecDepth 20000 in
theorem gh_terms : GoodIn wsL_law ([.methodLink RL 68 yX7_terms, .instanceMethod yX7_terms, .selects RX7 yX7_terms yX7_terms, .initialized RX7] : List Cond) := goodIn_r _ [104, 105, 106, 2] (by decide +kernel) (by decide +kernel)
theorem gB_X7_terms : GoodIn wsL_law (wsV RL 68 RX7 yX7_terms wsX7_terms) := goodIn_app gh_terms gg_terms
set_option maxRecDepth 20000 in
theorem gh_patterns : GoodIn wsL_law ([.methodLink RL 71 yX7_patterns, .instanceMethod yX7_patterns, .selects RX7 yX7_patterns yX7_patterns, .initialized RX7] : List Cond) := goodIn_r _ [519, 520, 521, 2] (by decide +kernel) (by decide +kernel)
theorem gB_X7_patterns : GoodIn wsL_law (wsV RL 71 RX7 yX7_patterns wsX7_patterns) := goodIn_app gh_patterns gg_patterns
set_option maxRecDepth 20000 in
theorem gh_answers : GoodIn wsL_law ([.methodLink RL 74 yX7_answers, .instanceMethod yX7_answers, .selects RX7 yX7_answers yX7_answers, .initialized RX7] : List Cond) := goodIn_r _ [112, 113, 114, 2] (by decide +kernel) (by decide +kernel)
theorem gB_X7_answers : GoodIn wsL_law (wsV RL 74 RX7 yX7_answers wsX7_answers) := goodIn_app gh_answers gg_answers
set_option maxRecDepth 20000 in
theorem gh_variables : GoodIn wsL_law ([.methodLink RL 100 yX7_variables, .instanceMethod yX7_variables, .selects RX7 yX7_variables yX7_variables, .initialized RX7] : List Cond) := goodIn_r _ [530, 531, 532, 2] (by decide +kernel) (by decide +kernel)
theorem gB_X7_variables : GoodIn wsL_law (wsV RL 100 RX7 yX7_variables wsX7_variables) := goodIn_app gh_variables gg_variables
set_option maxRecDepth 20000 in
theorem gh_shape : GoodIn wsL_law ([.methodLink RL 103 yX7_shape, .instanceMethod yX7_shape, .selects RX7 yX7_shape yX7_shape, .initialized RX7] : List Cond) := goodIn_r _ [534, 535, 536, 2] (by decide +kernel) (by decide +kernel)
theorem gB_X7_shape : GoodIn wsL_law (wsV RL 103 RX7 yX7_shape wsX7_shape) := goodIn_app gh_shape gg_shape
set_option maxRecDepth 20000 in
theorem gh_forget : GoodIn wsL_law ([.methodLink RL 85 yX7_forget, .instanceMethod yX7_forget, .selects RX7 yX7_forget yX7_forget, .initialized RX7] : List Cond) := goodIn_r _ [116, 117, 118, 2] (by decide +kernel) (by decide +kernel)
theorem gB_X7_forget : GoodIn wsL_law (wsV RL 85 RX7 yX7_forget wsX7_forget) := goodIn_app gh_forget gg_forget
set_option maxRecDepth 20000 in
theorem gh_orderFor : GoodIn wsL_law ([.methodLink RL 96 yX7_orderFor, .instanceMethod yX7_orderFor, .selects RX7 yX7_orderFor yX7_orderFor, .initialized RX7] : List Cond) := goodIn_r _ [523, 524, 525, 2] (by decide +kernel) (by decide +kernel)
theorem gB_X7_orderFor : GoodIn wsL_law (wsV RL 96 RX7 yX7_orderFor wsX7_orderFor) := goodIn_app gh_orderFor gg_orderFor
set_option maxRecDepth 20000 in
theorem gh_L_act : GoodIn wsL_law ([.methodLink RL 78 yL_act, .static yL_act, .initialized RL] : List Cond) := goodIn_r _ [155, 156, 5] (by decide +kernel) (by decide +kernel)
theorem gB_L_act : GoodIn wsL_law (va_wsS RL 78 yL_act wsL_act) := goodIn_app gh_L_act gg_act
set_option maxRecDepth 20000 in
theorem gh_L_refuses : GoodIn wsL_law ([.methodLink RL 92 yL_refuses, .static yL_refuses, .initialized RL] : List Cond) := goodIn_r _ [515, 516, 5] (by decide +kernel) (by decide +kernel)
def wq_refuses : List Cond := .code yL_refuses cL_refuses 15 (some .boolean) :: wsL_law
set_option maxRecDepth 20000 in
theorem gc_refuses : GoodIn wsL_law [.code yL_refuses cL_refuses 15 (some .boolean)] := goodIn_r _ [517] (by decide +kernel) (by decide +kernel)
theorem gB_L_refuses : GoodIn wsL_law (va_wsS RL 92 yL_refuses wq_refuses) := goodIn_app gh_L_refuses (goodIn_c gc_refuses g_self)
set_option maxRecDepth 20000 in
theorem gh_L_comes : GoodIn wsL_law ([.methodLink RL 88 yL_comes, .static yL_comes, .initialized RL] : List Cond) := goodIn_r _ [152, 153, 5] (by decide +kernel) (by decide +kernel)
def wq_comes : List Cond := .code yL_comes cL_comes 2 (some .boolean) :: wsL_law
set_option maxRecDepth 20000 in
theorem gc_comes : GoodIn wsL_law [.code yL_comes cL_comes 2 (some .boolean)] := goodIn_r _ [154] (by decide +kernel) (by decide +kernel)
theorem gB_L_comes : GoodIn wsL_law (va_wsS RL 88 yL_comes wq_comes) := goodIn_app gh_L_comes (goodIn_c gc_comes g_self)
set_option maxRecDepth 20000 in
theorem gh_L_orders : GoodIn wsL_law ([.methodLink RL 106 yL_orders, .static yL_orders, .initialized RL] : List Cond) := goodIn_r _ [3, 4, 5] (by decide +kernel) (by decide +kernel)
def wq_orders : List Cond := .code yL_orders cL_orders 5 (some .boolean) :: wsL_law
set_option maxRecDepth 20000 in
theorem gc_orders : GoodIn wsL_law [.code yL_orders cL_orders 5 (some .boolean)] := goodIn_r _ [6] (by decide +kernel) (by decide +kernel)
theorem gB_L_orders : GoodIn wsL_law (va_wsS RL 106 yL_orders wq_orders) := goodIn_app gh_L_orders (goodIn_c gc_orders g_self)
set_option maxRecDepth 20000 in
theorem gh_L_queries : GoodIn wsL_law ([.methodLink RL 110 yL_queries, .static yL_queries, .initialized RL] : List Cond) := goodIn_r _ [527, 528, 5] (by decide +kernel) (by decide +kernel)
def wq_queries : List Cond := .code yL_queries cL_queries 1 (some .boolean) :: wsL_law
set_option maxRecDepth 20000 in
theorem gc_queries : GoodIn wsL_law [.code yL_queries cL_queries 1 (some .boolean)] := goodIn_r _ [529] (by decide +kernel) (by decide +kernel)
theorem gB_L_queries : GoodIn wsL_law (va_wsS RL 110 yL_queries wq_queries) := goodIn_app gh_L_queries (goodIn_c gc_queries g_self)
set_option maxRecDepth 20000 in
theorem gh_L_bounds : GoodIn wsL_law ([.methodLink RL 113 yL_bounds, .static yL_bounds, .initialized RL] : List Cond) := goodIn_r _ [550, 551, 5] (by decide +kernel) (by decide +kernel)
def wq_bounds : List Cond := .code yL_bounds cL_bounds 3 (some .boolean) :: wsL_law
set_option maxRecDepth 20000 in
theorem gc_bounds : GoodIn wsL_law [.code yL_bounds cL_bounds 3 (some .boolean)] := goodIn_r _ [552] (by decide +kernel) (by decide +kernel)
theorem gB_L_bounds : GoodIn wsL_law (va_wsS RL 113 yL_bounds wq_bounds) := goodIn_app gh_L_bounds (goodIn_c gc_bounds g_self)
theorem inlX7 : ∀ w ∈ wsX70, w ∈ wsL_law := fun _ h => List.mem_append_left _ (List.mem_append_left _ (List.mem_append_left _ (List.mem_append_left _ (List.mem_append_left _ (List.mem_append_left _ (List.mem_append_left _ (List.mem_append_left _ (List.mem_append_left _ (List.mem_append_left _ (List.mem_append_left _ (List.mem_append_right _ h)))))))))))
