/-! the JDK's methods that are called: by program -/
abbrev m_Math_max : xw_M := (⟨"java/lang/Math", "max", "(II)I"⟩, prog_20_method_65_code, 2, (Option.some Jvm.ClassFile.FieldType.int), [])
theorem d_Math_max_0 : decode prog_20_method_65_code 0 = .ok (.iload_n 0, 1) := by decide +kernel
theorem d_Math_max_1 : decode prog_20_method_65_code 1 = .ok (.iload_n 1, 1) := by decide +kernel
theorem d_Math_max_2 : decode prog_20_method_65_code 2 = .ok (.if_icmp .lt 7, 3) := by decide +kernel
theorem d_Math_max_5 : decode prog_20_method_65_code 5 = .ok (.iload_n 0, 1) := by decide +kernel
theorem d_Math_max_6 : decode prog_20_method_65_code 6 = .ok (.goto 4, 3) := by decide +kernel
theorem d_Math_max_9 : decode prog_20_method_65_code 9 = .ok (.iload_n 1, 1) := by decide +kernel
theorem d_Math_max_10 : decode prog_20_method_65_code 10 = .ok (.ireturn, 1) := by decide +kernel
theorem cS_Store_76 : xw_sS "PhraseShelf$Store" 76 m_Math_max 2 := ⟨List.forall_mem_cons.mpr ⟨xw_in 461 (by decide +kernel) rfl, List.forall_mem_cons.mpr ⟨xw_in 462 (by decide +kernel) rfl, List.forall_mem_cons.mpr ⟨xw_in 103 (by decide +kernel) rfl, (fun _ h => nomatch h)⟩⟩⟩, xw_in 463 (by decide +kernel) rfl, by decide +kernel, by decide +kernel, by decide +kernel⟩
theorem cS_Standing_138 : xw_sS "PhraseShelf$Standing" 138 m_Math_max 2 := ⟨List.forall_mem_cons.mpr ⟨xw_in 1038 (by decide +kernel) rfl, List.forall_mem_cons.mpr ⟨xw_in 462 (by decide +kernel) rfl, List.forall_mem_cons.mpr ⟨xw_in 103 (by decide +kernel) rfl, (fun _ h => nomatch h)⟩⟩⟩, xw_in 463 (by decide +kernel) rfl, by decide +kernel, by decide +kernel, by decide +kernel⟩
abbrev m_Math_min : xw_M := (⟨"java/lang/Math", "min", "(II)I"⟩, prog_20_method_69_code, 2, (Option.some Jvm.ClassFile.FieldType.int), [])
theorem d_Math_min_0 : decode prog_20_method_69_code 0 = .ok (.iload_n 0, 1) := by decide +kernel
theorem d_Math_min_1 : decode prog_20_method_69_code 1 = .ok (.iload_n 1, 1) := by decide +kernel
theorem d_Math_min_2 : decode prog_20_method_69_code 2 = .ok (.if_icmp .gt 7, 3) := by decide +kernel
theorem d_Math_min_5 : decode prog_20_method_69_code 5 = .ok (.iload_n 0, 1) := by decide +kernel
theorem d_Math_min_6 : decode prog_20_method_69_code 6 = .ok (.goto 4, 3) := by decide +kernel
theorem d_Math_min_9 : decode prog_20_method_69_code 9 = .ok (.iload_n 1, 1) := by decide +kernel
theorem d_Math_min_10 : decode prog_20_method_69_code 10 = .ok (.ireturn, 1) := by decide +kernel
theorem cS_Standing_147 : xw_sS "PhraseShelf$Standing" 147 m_Math_min 2 := ⟨List.forall_mem_cons.mpr ⟨xw_in 1039 (by decide +kernel) rfl, List.forall_mem_cons.mpr ⟨xw_in 870 (by decide +kernel) rfl, List.forall_mem_cons.mpr ⟨xw_in 103 (by decide +kernel) rfl, (fun _ h => nomatch h)⟩⟩⟩, xw_in 871 (by decide +kernel) rfl, by decide +kernel, by decide +kernel, by decide +kernel⟩
theorem s_Math_max_0 {G : xw_G} {F L bc bs : Nat} {pr : Option Value → xw_A → Prop} {px : String → xw_A → Prop} {h : xw_A} {x0 : Int32} {x1 : Int32}  (kt : x0 < x1 → xw G m_Math_max F L bc bs pr px 9 [none, some (.int x1)] [] h) (kf : ¬ x0 < x1 → xw G m_Math_max F L bc bs pr px 5 [some (.int x0), none] [] h) : xw G m_Math_max F L bc bs pr px 0 [some (.int x0), some (.int x1)] [] h := by
  refine x_iload_n d_Math_max_0 rfl rfl ?_
  refine x_iload_n d_Math_max_1 rfl rfl ?_
  refine x_icmp_lt (tgt := 9) d_Math_max_2 (by decide) (fun hc => ?_) (fun hc => ?_)
  · exact x_le (lv' := [none, some (.int x1)]) (xw_le_n (xw_le_s xw_le_e)) (kt hc)
  · exact x_le (lv' := [some (.int x0), none]) (xw_le_s (xw_le_n xw_le_e)) (kf hc)
theorem s_Math_max_5 {G : xw_G} {F L bc bs : Nat} {pr : Option Value → xw_A → Prop} {px : String → xw_A → Prop} {h : xw_A} {x0 : Int32}  (k : xw G m_Math_max F L bc bs pr px 10 [none, none] [.int x0] h) : xw G m_Math_max F L bc bs pr px 5 [some (.int x0), none] [] h := by
  refine x_iload_n d_Math_max_5 rfl rfl ?_
  refine x_goto (tgt := 10) d_Math_max_6 (by decide) ?_
  exact x_le (lv' := [none, none]) (xw_le_n (xw_le_n xw_le_e)) (k)
theorem s_Math_max_9 {G : xw_G} {F L bc bs : Nat} {pr : Option Value → xw_A → Prop} {px : String → xw_A → Prop} {h : xw_A} {x1 : Int32}  (k : xw G m_Math_max F L bc bs pr px 10 [none, none] [.int x1] h) : xw G m_Math_max F L bc bs pr px 9 [none, some (.int x1)] [] h := by
  refine x_iload_n d_Math_max_9 rfl rfl ?_
  exact x_le (lv' := [none, none]) (xw_le_n (xw_le_n xw_le_e)) (k)
theorem s_Math_max_10 {G : xw_G} {F L bc bs : Nat} {pr : Option Value → xw_A → Prop} {px : String → xw_A → Prop} {h : xw_A} {y0 : Int32}  (kr : pr (some (.int y0)) h) : xw G m_Math_max F L bc bs pr px 10 [none, none] [.int y0] h := by
  exact x_iret d_Math_max_10 rfl kr
theorem s_Math_min_0 {G : xw_G} {F L bc bs : Nat} {pr : Option Value → xw_A → Prop} {px : String → xw_A → Prop} {h : xw_A} {x0 : Int32} {x1 : Int32}  (kt : x1 < x0 → xw G m_Math_min F L bc bs pr px 9 [none, some (.int x1)] [] h) (kf : ¬ x1 < x0 → xw G m_Math_min F L bc bs pr px 5 [some (.int x0), none] [] h) : xw G m_Math_min F L bc bs pr px 0 [some (.int x0), some (.int x1)] [] h := by
  refine x_iload_n d_Math_min_0 rfl rfl ?_
  refine x_iload_n d_Math_min_1 rfl rfl ?_
  refine x_icmp_gt (tgt := 9) d_Math_min_2 (by decide) (fun hc => ?_) (fun hc => ?_)
  · exact x_le (lv' := [none, some (.int x1)]) (xw_le_n (xw_le_s xw_le_e)) (kt hc)
  · exact x_le (lv' := [some (.int x0), none]) (xw_le_s (xw_le_n xw_le_e)) (kf hc)
theorem s_Math_min_5 {G : xw_G} {F L bc bs : Nat} {pr : Option Value → xw_A → Prop} {px : String → xw_A → Prop} {h : xw_A} {x0 : Int32}  (k : xw G m_Math_min F L bc bs pr px 10 [none, none] [.int x0] h) : xw G m_Math_min F L bc bs pr px 5 [some (.int x0), none] [] h := by
  refine x_iload_n d_Math_min_5 rfl rfl ?_
  refine x_goto (tgt := 10) d_Math_min_6 (by decide) ?_
  exact x_le (lv' := [none, none]) (xw_le_n (xw_le_n xw_le_e)) (k)
theorem s_Math_min_9 {G : xw_G} {F L bc bs : Nat} {pr : Option Value → xw_A → Prop} {px : String → xw_A → Prop} {h : xw_A} {x1 : Int32}  (k : xw G m_Math_min F L bc bs pr px 10 [none, none] [.int x1] h) : xw G m_Math_min F L bc bs pr px 9 [none, some (.int x1)] [] h := by
  refine x_iload_n d_Math_min_9 rfl rfl ?_
  exact x_le (lv' := [none, none]) (xw_le_n (xw_le_n xw_le_e)) (k)
theorem s_Math_min_10 {G : xw_G} {F L bc bs : Nat} {pr : Option Value → xw_A → Prop} {px : String → xw_A → Prop} {h : xw_A} {y0 : Int32}  (kr : pr (some (.int y0)) h) : xw G m_Math_min F L bc bs pr px 10 [none, none] [.int y0] h := by
  exact x_iret d_Math_min_10 rfl kr
