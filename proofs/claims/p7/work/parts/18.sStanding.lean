/-! blocks of Standing: by program -/
theorem s_Standing_init_0 {G : xw_G} {F L bc bs : Nat} {pr : Option Value → xw_A → Prop} {px : String → xw_A → Prop} {h : xw_A} {a0 : Nat} {places_a0 : Option Nat} {question_a0 : Option Nat} (r_1 : 1 ≤ F ∧ 0 + 12 ≤ L) (u_8 : 1 ≤ bc ∧ 576 ≤ bs) (e_a0 : h a0 = some (.inr (7, [va_rf places_a0, va_rf question_a0]))) (kr : ∀ q8 : Nat, h q8 = none → pr none (xw_up (xw_up h q8 (.inl (0, 576, .inl ((fun _ => 0))))) a0 (.inr (7, [.ref q8, va_rf question_a0])))) : xw G m_Standing_init F L bc bs pr px 0 [some (.ref a0)] [] h := by
  refine x_aload_n d_Standing_init_0 rfl rfl ?_
  refine x_objInit d_Standing_init_1 oi_Standing r_1.1 (by simpa [Value.category] using r_1.2) ?_
  refine x_aload_n d_Standing_init_4 rfl rfl ?_
  refine x_sipush (v := 576) d_Standing_init_5 (by decide) ?_
  refine x_inew (N := 576) d_Standing_init_8 (by decide +kernel) (by decide) (by decide) (by decide) u_8 (fun q8 hq8 => ?_)
  show xw G m_Standing_init F L (bc - 1) (bs - 576) pr px 10 [some (.ref a0)] [.ref q8, .ref a0] (xw_up h q8 (.inl (0, 576, .inl ((fun _ => 0)))))
  refine x_putF (ty := (.array .int)) d_Standing_init_10 f_Standing_9 fw_Standing_0.1 rfl rfl fw_Standing_0.2 rfl rfl (Nat.le_of_ble_eq_true rfl) ((xw_up_n _ _ (xw_neN e_a0 hq8)).trans e_a0) ?_
  show xw G m_Standing_init F L (bc - 1) (bs - 576) pr px 13 [some (.ref a0)] [] (xw_up (xw_up h q8 (.inl (0, 576, .inl ((fun _ => 0))))) a0 (.inr (7, [.ref q8, va_rf question_a0])))
  exact x_vret d_Standing_init_13 rfl (kr q8 hq8)
theorem s_Standing_fill_0 {G : xw_G} {F L bc bs : Nat} {pr : Option Value → xw_A → Prop} {px : String → xw_A → Prop} {h : xw_A} {a0 : Nat} {a1 : Nat} {a2 : Nat} {places_a0 : Option Nat} {question_a0 : Option Nat} (e_a0 : h a0 = some (.inr (7, [va_rf places_a0, va_rf question_a0]))) (k : xw G m_Standing_fill F L bc bs pr px 7 [some (.ref a0), some (.ref a1), some (.ref a2), some (.int 0), none, none, none, none] [] (xw_up h a0 (.inr (7, [va_rf places_a0, .ref a1])))) : xw G m_Standing_fill F L bc bs pr px 0 [some (.ref a0), some (.ref a1), some (.ref a2), none, none, none, none, none] [] h := by
  refine x_aload_n d_Standing_fill_0 rfl rfl ?_
  refine x_aload_n d_Standing_fill_1 rfl rfl ?_
  refine x_put (ty := (.object "PhraseShelf$Question")) d_Standing_fill_2 f_Standing_15 fw_Standing_1.1 fw_Standing_1.2 rfl rfl (Nat.le_of_ble_eq_true rfl) e_a0 ?_
  show xw G m_Standing_fill F L bc bs pr px 5 [some (.ref a0), some (.ref a1), some (.ref a2), none, none, none, none, none] [] (xw_up h a0 (.inr (7, [va_rf places_a0, .ref a1])))
  refine x_iconst (v := 0) d_Standing_fill_5 (by decide) ?_
  refine x_istore_n d_Standing_fill_6 rfl (by decide) rfl ?_
  show xw G m_Standing_fill F L bc bs pr px 7 [some (.ref a0), some (.ref a1), some (.ref a2), some (.int 0), none, none, none, none] [] (xw_up h a0 (.inr (7, [va_rf places_a0, .ref a1])))
  exact k
theorem s_Standing_fill_7 {G : xw_G} {F L bc bs : Nat} {pr : Option Value → xw_A → Prop} {px : String → xw_A → Prop} {h : xw_A} {a0 : Nat} {a1 : Nat} {a2 : Nat} {x3 : Int32} {tokens_a1 : Option Nat} {phrases_a1 : Option Nat} {nodes_a1 : Option Nat} {phraseCount_a1 : Int32} {nodeCount_a1 : Int32} {wrongPlace_a1 : Int32} {parts_a1 : Option Nat} {letters_a1 : Option Nat} {at_a1 : Int32} (e_a1 : h a1 = some (.inr (5, [va_rf tokens_a1, va_rf phrases_a1, va_rf nodes_a1, .int phraseCount_a1, .int nodeCount_a1, .int wrongPlace_a1, va_rf parts_a1, va_rf letters_a1, .int at_a1]))) (kt : phraseCount_a1 ≤ x3 → xw G m_Standing_fill F L bc bs pr px 103 [none, none, none, none, none, none, none, none] [] h) (kf : ¬ phraseCount_a1 ≤ x3 → xw G m_Standing_fill F L bc bs pr px 15 [some (.ref a0), some (.ref a1), some (.ref a2), some (.int x3), none, none, none, none] [] h) : xw G m_Standing_fill F L bc bs pr px 7 [some (.ref a0), some (.ref a1), some (.ref a2), some (.int x3), none, none, none, none] [] h := by
  refine x_iload_n d_Standing_fill_7 rfl rfl ?_
  refine x_aload_n d_Standing_fill_8 rfl rfl ?_
  refine x_get d_Standing_fill_9 f_Standing_19 e_a1 rfl ?_
  refine x_icmp_ge (tgt := 103) d_Standing_fill_12 (by decide) (fun hc => ?_) (fun hc => ?_)
  · exact x_le (lv' := [none, none, none, none, none, none, none, none]) (xw_le_n (xw_le_n (xw_le_n (xw_le_n (xw_le_n (xw_le_n (xw_le_n (xw_le_n xw_le_e)))))))) (kt hc)
  · exact kf hc
theorem s_Standing_fill_15 {G : xw_G} {F L bc bs : Nat} {pr : Option Value → xw_A → Prop} {px : String → xw_A → Prop} {h : xw_A} {a0 : Nat} {a1 : Nat} {a2 : Nat} {x3 : Int32}  (k : xw G m_Standing_fill F L bc bs pr px 18 [some (.ref a0), some (.ref a1), some (.ref a2), some (.int x3), some (.int 1), none, none, none] [] h) : xw G m_Standing_fill F L bc bs pr px 15 [some (.ref a0), some (.ref a1), some (.ref a2), some (.int x3), none, none, none, none] [] h := by
  refine x_iconst (v := 1) d_Standing_fill_15 (by decide) ?_
  refine x_istore d_Standing_fill_16 (by decide) rfl ?_
  show xw G m_Standing_fill F L bc bs pr px 18 [some (.ref a0), some (.ref a1), some (.ref a2), some (.int x3), some (.int 1), none, none, none] [] h
  exact k
theorem s_Standing_fill_18 {G : xw_G} {F L bc bs : Nat} {pr : Option Value → xw_A → Prop} {px : String → xw_A → Prop} {h : xw_A} {a0 : Nat} {a1 : Nat} {a2 : Nat} {x3 : Int32} {x4 : Int32}  (kt : 24 < x4 → xw G m_Standing_fill F L bc bs pr px 97 [some (.ref a0), some (.ref a1), some (.ref a2), some (.int x3), none, none, none, none] [] h) (kf : ¬ 24 < x4 → xw G m_Standing_fill F L bc bs pr px 25 [some (.ref a0), some (.ref a1), some (.ref a2), some (.int x3), some (.int x4), none, none, none] [] h) : xw G m_Standing_fill F L bc bs pr px 18 [some (.ref a0), some (.ref a1), some (.ref a2), some (.int x3), some (.int x4), none, none, none] [] h := by
  refine x_iload d_Standing_fill_18 rfl ?_
  refine x_bipush (v := 24) d_Standing_fill_20 (by decide) ?_
  refine x_icmp_gt (tgt := 97) d_Standing_fill_22 (by decide) (fun hc => ?_) (fun hc => ?_)
  · exact x_le (lv' := [some (.ref a0), some (.ref a1), some (.ref a2), some (.int x3), none, none, none, none]) (xw_le_s (xw_le_s (xw_le_s (xw_le_s (xw_le_n (xw_le_n (xw_le_n (xw_le_n xw_le_e)))))))) (kt hc)
  · exact kf hc
theorem s_Standing_fill_25 {G : xw_G} {F L bc bs : Nat} {pr : Option Value → xw_A → Prop} {px : String → xw_A → Prop} {h : xw_A} {a0 : Nat} {a1 : Nat} {a2 : Nat} {x3 : Int32} {x4 : Int32}  (k : xw G m_Standing_fill F L bc bs pr px 28 [some (.ref a0), some (.ref a1), some (.ref a2), some (.int x3), some (.int x4), none, none, none] [.int x4, .ref a2] h) : xw G m_Standing_fill F L bc bs pr px 25 [some (.ref a0), some (.ref a1), some (.ref a2), some (.int x3), some (.int x4), none, none, none] [] h := by
  refine x_aload_n d_Standing_fill_25 rfl rfl ?_
  refine x_iload d_Standing_fill_26 rfl ?_
  exact k
theorem s_Standing_fill_31 {G : xw_G} {F L bc bs : Nat} {pr : Option Value → xw_A → Prop} {px : String → xw_A → Prop} {h : xw_A} {a0 : Nat} {a1 : Nat} {a2 : Nat} {x3 : Int32} {x4 : Int32} {s0 : Option Nat}  (k : xw G m_Standing_fill F L bc bs pr px 36 [some (.ref a0), some (.ref a1), some (.ref a2), some (.int x3), some (.int x4), some (va_rf s0), some (.int 0), none] [] h) : xw G m_Standing_fill F L bc bs pr px 31 [some (.ref a0), some (.ref a1), some (.ref a2), some (.int x3), some (.int x4), none, none, none] [va_rf s0] h := by
  refine x_astoreq d_Standing_fill_31 (by decide) rfl ?_
  show xw G m_Standing_fill F L bc bs pr px 33 [some (.ref a0), some (.ref a1), some (.ref a2), some (.int x3), some (.int x4), some (va_rf s0), none, none] [] h
  refine x_iconst (v := 0) d_Standing_fill_33 (by decide) ?_
  refine x_istore d_Standing_fill_34 (by decide) (vl_cat _) ?_
  show xw G m_Standing_fill F L bc bs pr px 36 [some (.ref a0), some (.ref a1), some (.ref a2), some (.int x3), some (.int x4), some (va_rf s0), some (.int 0), none] [] h
  exact k
theorem s_Standing_fill_36 {G : xw_G} {F L bc bs : Nat} {pr : Option Value → xw_A → Prop} {px : String → xw_A → Prop} {h : xw_A} {a0 : Nat} {a1 : Nat} {a2 : Nat} {x3 : Int32} {x4 : Int32} {r5 : Option Nat} {x6 : Int32}  (kt : 2 ≤ x6 → xw G m_Standing_fill F L bc bs pr px 91 [some (.ref a0), some (.ref a1), some (.ref a2), some (.int x3), some (.int x4), none, none, none] [] h) (kf : ¬ 2 ≤ x6 → xw G m_Standing_fill F L bc bs pr px 42 [some (.ref a0), some (.ref a1), some (.ref a2), some (.int x3), some (.int x4), some (va_rf r5), some (.int x6), none] [] h) : xw G m_Standing_fill F L bc bs pr px 36 [some (.ref a0), some (.ref a1), some (.ref a2), some (.int x3), some (.int x4), some (va_rf r5), some (.int x6), none] [] h := by
  refine x_iload d_Standing_fill_36 rfl ?_
  refine x_iconst (v := 2) d_Standing_fill_38 (by decide) ?_
  refine x_icmp_ge (tgt := 91) d_Standing_fill_39 (by decide) (fun hc => ?_) (fun hc => ?_)
  · exact x_le (lv' := [some (.ref a0), some (.ref a1), some (.ref a2), some (.int x3), some (.int x4), none, none, none]) (xw_le_s (xw_le_s (xw_le_s (xw_le_s (xw_le_s (xw_le_n (xw_le_n (xw_le_n xw_le_e)))))))) (kt hc)
  · exact kf hc
theorem s_Standing_fill_42 {G : xw_G} {F L bc bs : Nat} {pr : Option Value → xw_A → Prop} {px : String → xw_A → Prop} {h : xw_A} {a0 : Nat} {a1 : Nat} {a2 : Nat} {x3 : Int32} {x4 : Int32} {r5 : Option Nat} {x6 : Int32}  (kn : r5 = none → xw G m_Standing_fill F L bc bs pr px 47 [some (.ref a0), some (.ref a1), some (.ref a2), some (.int x3), some (.int x4), some (va_rf r5), some (.int x6), none] [] h) (ks : ∀ a9 : Nat, r5 = some a9 → xw G m_Standing_fill F L bc bs pr px 51 [some (.ref a0), some (.ref a1), some (.ref a2), some (.int x3), some (.int x4), some (va_rf r5), some (.int x6), none] [] h) : xw G m_Standing_fill F L bc bs pr px 42 [some (.ref a0), some (.ref a1), some (.ref a2), some (.int x3), some (.int x4), some (va_rf r5), some (.int x6), none] [] h := by
  refine x_aloadq d_Standing_fill_42 rfl ?_
  refine x_ifnonnullq (tgt := 51) d_Standing_fill_44 (by decide) (fun hc => ?_) (fun a9 hc => ?_)
  · exact kn hc
  · exact ks a9 hc
theorem s_Standing_fill_47 {G : xw_G} {F L bc bs : Nat} {pr : Option Value → xw_A → Prop} {px : String → xw_A → Prop} {h : xw_A} {a0 : Nat} {a1 : Nat} {a2 : Nat} {x3 : Int32} {x4 : Int32} {r5 : Option Nat} {x6 : Int32}  (k : xw G m_Standing_fill F L bc bs pr px 68 [some (.ref a0), some (.ref a1), some (.ref a2), some (.int x3), some (.int x4), some (va_rf r5), some (.int x6), none] [.int 0] h) : xw G m_Standing_fill F L bc bs pr px 47 [some (.ref a0), some (.ref a1), some (.ref a2), some (.int x3), some (.int x4), some (va_rf r5), some (.int x6), none] [] h := by
  refine x_iconst (v := 0) d_Standing_fill_47 (by decide) ?_
  refine x_goto (tgt := 68) d_Standing_fill_48 (by decide) ?_
  exact k
theorem s_Standing_fill_51 {G : xw_G} {F L bc bs : Nat} {pr : Option Value → xw_A → Prop} {px : String → xw_A → Prop} {h : xw_A} {a0 : Nat} {a1 : Nat} {a2 : Nat} {x3 : Int32} {x4 : Int32} {r5 : Option Nat} {x6 : Int32} {tokens_a1 : Option Nat} {phrases_a1 : Nat} {nodes_a1 : Option Nat} {phraseCount_a1 : Int32} {nodeCount_a1 : Int32} {wrongPlace_a1 : Int32} {parts_a1 : Option Nat} {letters_a1 : Option Nat} {at_a1 : Int32} {n_phrases_a1 : Nat} {f_phrases_a1 : Nat → Option Nat} (e_a1 : h a1 = some (.inr (5, [va_rf tokens_a1, .ref phrases_a1, va_rf nodes_a1, .int phraseCount_a1, .int nodeCount_a1, .int wrongPlace_a1, va_rf parts_a1, va_rf letters_a1, .int at_a1]))) (e_phrases_a1 : h phrases_a1 = some (.inl (4 + 6, n_phrases_a1, .inr (.inr (.inr (.inr f_phrases_a1)))))) (i_57 : vp_in x3 n_phrases_a1) (k : xw G m_Standing_fill F L bc bs pr px 62 [some (.ref a0), some (.ref a1), some (.ref a2), some (.int x3), some (.int x4), some (va_rf r5), some (.int x6), none] [.int x6, va_rf r5, va_rf (f_phrases_a1 x3.toNatClampNeg), .ref a0] h) : xw G m_Standing_fill F L bc bs pr px 51 [some (.ref a0), some (.ref a1), some (.ref a2), some (.int x3), some (.int x4), some (va_rf r5), some (.int x6), none] [] h := by
  refine x_aload_n d_Standing_fill_51 rfl rfl ?_
  refine x_aload_n d_Standing_fill_52 rfl rfl ?_
  refine x_get d_Standing_fill_53 f_Standing_31 e_a1 rfl ?_
  refine x_iload_n d_Standing_fill_56 rfl rfl ?_
  refine x_aald d_Standing_fill_57 e_phrases_a1 i_57 rfl ?_
  refine x_aloadq d_Standing_fill_58 rfl ?_
  refine x_iload d_Standing_fill_60 rfl ?_
  exact k
theorem s_Standing_fill_68 {G : xw_G} {F L bc bs : Nat} {pr : Option Value → xw_A → Prop} {px : String → xw_A → Prop} {h : xw_A} {a0 : Nat} {a1 : Nat} {a2 : Nat} {x3 : Int32} {x4 : Int32} {r5 : Option Nat} {x6 : Int32} {y0 : Int32} {places_a0 : Option Nat} {question_a0 : Option Nat} (e_a0 : h a0 = some (.inr (7, [va_rf places_a0, va_rf question_a0]))) (k : xw G m_Standing_fill F L bc bs pr px 79 [some (.ref a0), some (.ref a1), some (.ref a2), some (.int x3), some (.int x4), some (va_rf r5), some (.int x6), some (.int y0)] [.int x6, .int x4, .int x3, va_rf places_a0] h) : xw G m_Standing_fill F L bc bs pr px 68 [some (.ref a0), some (.ref a1), some (.ref a2), some (.int x3), some (.int x4), some (va_rf r5), some (.int x6), none] [.int y0] h := by
  refine x_istore d_Standing_fill_68 (by decide) rfl ?_
  show xw G m_Standing_fill F L bc bs pr px 70 [some (.ref a0), some (.ref a1), some (.ref a2), some (.int x3), some (.int x4), some (va_rf r5), some (.int x6), some (.int y0)] [] h
  refine x_aload_n d_Standing_fill_70 rfl rfl ?_
  refine x_get d_Standing_fill_71 f_Standing_9 e_a0 rfl ?_
  refine x_iload_n d_Standing_fill_74 rfl rfl ?_
  refine x_iload d_Standing_fill_75 rfl ?_
  refine x_iload d_Standing_fill_77 rfl ?_
  exact k
theorem s_Standing_fill_82 {G : xw_G} {F L bc bs : Nat} {pr : Option Value → xw_A → Prop} {px : String → xw_A → Prop} {h : xw_A} {a0 : Nat} {a1 : Nat} {a2 : Nat} {x3 : Int32} {x4 : Int32} {r5 : Option Nat} {x6 : Int32} {x7 : Int32} {y0 : Int32} {b1 : Nat} {n_b1 : Nat} {f_b1 : Nat → Int32} (e_b1 : h b1 = some (.inl (0, n_b1, .inl f_b1))) (i_84 : vp_in y0 n_b1) (k : xw G m_Standing_fill F L bc bs pr px 36 [some (.ref a0), some (.ref a1), some (.ref a2), some (.int x3), some (.int x4), some (va_rf r5), some (.int (x6 + 1)), none] [] (xw_up h b1 (.inl (0, n_b1, .inl (upd f_b1 (y0).toNatClampNeg x7))))) : xw G m_Standing_fill F L bc bs pr px 82 [some (.ref a0), some (.ref a1), some (.ref a2), some (.int x3), some (.int x4), some (va_rf r5), some (.int x6), some (.int x7)] [.int y0, .ref b1] h := by
  refine x_iload d_Standing_fill_82 rfl ?_
  refine x_iast d_Standing_fill_84 e_b1 i_84 ?_
  refine x_iinc (v := x6 + 1) d_Standing_fill_85 rfl (by rfl) (by decide) (vl_cat _) ?_
  show xw G m_Standing_fill F L bc bs pr px 88 [some (.ref a0), some (.ref a1), some (.ref a2), some (.int x3), some (.int x4), some (va_rf r5), some (.int (x6 + 1)), some (.int x7)] [] (xw_up h b1 (.inl (0, n_b1, .inl (upd f_b1 (y0).toNatClampNeg x7))))
  refine x_goto (tgt := 36) d_Standing_fill_88 (by decide) ?_
  exact x_le (lv' := [some (.ref a0), some (.ref a1), some (.ref a2), some (.int x3), some (.int x4), some (va_rf r5), some (.int (x6 + 1)), none]) (xw_le_s (xw_le_s (xw_le_s (xw_le_s (xw_le_s (xw_le_s (xw_le_s (xw_le_n xw_le_e)))))))) (k)
theorem s_Standing_fill_91 {G : xw_G} {F L bc bs : Nat} {pr : Option Value → xw_A → Prop} {px : String → xw_A → Prop} {h : xw_A} {a0 : Nat} {a1 : Nat} {a2 : Nat} {x3 : Int32} {x4 : Int32}  (k : xw G m_Standing_fill F L bc bs pr px 18 [some (.ref a0), some (.ref a1), some (.ref a2), some (.int x3), some (.int (x4 + 1)), none, none, none] [] h) : xw G m_Standing_fill F L bc bs pr px 91 [some (.ref a0), some (.ref a1), some (.ref a2), some (.int x3), some (.int x4), none, none, none] [] h := by
  refine x_iinc (v := x4 + 1) d_Standing_fill_91 rfl (by rfl) (by decide) rfl ?_
  show xw G m_Standing_fill F L bc bs pr px 94 [some (.ref a0), some (.ref a1), some (.ref a2), some (.int x3), some (.int (x4 + 1)), none, none, none] [] h
  refine x_goto (tgt := 18) d_Standing_fill_94 (by decide) ?_
  exact k
theorem s_Standing_fill_97 {G : xw_G} {F L bc bs : Nat} {pr : Option Value → xw_A → Prop} {px : String → xw_A → Prop} {h : xw_A} {a0 : Nat} {a1 : Nat} {a2 : Nat} {x3 : Int32}  (k : xw G m_Standing_fill F L bc bs pr px 7 [some (.ref a0), some (.ref a1), some (.ref a2), some (.int (x3 + 1)), none, none, none, none] [] h) : xw G m_Standing_fill F L bc bs pr px 97 [some (.ref a0), some (.ref a1), some (.ref a2), some (.int x3), none, none, none, none] [] h := by
  refine x_iinc (v := x3 + 1) d_Standing_fill_97 rfl (by rfl) (by decide) rfl ?_
  show xw G m_Standing_fill F L bc bs pr px 100 [some (.ref a0), some (.ref a1), some (.ref a2), some (.int (x3 + 1)), none, none, none, none] [] h
  refine x_goto (tgt := 7) d_Standing_fill_100 (by decide) ?_
  exact k
theorem s_Standing_fill_103 {G : xw_G} {F L bc bs : Nat} {pr : Option Value → xw_A → Prop} {px : String → xw_A → Prop} {h : xw_A}   (kr : pr none h) : xw G m_Standing_fill F L bc bs pr px 103 [none, none, none, none, none, none, none, none] [] h := by
  exact x_vret d_Standing_fill_103 rfl kr
theorem s_Standing_placesIn_0 {G : xw_G} {F L bc bs : Nat} {pr : Option Value → xw_A → Prop} {px : String → xw_A → Prop} {h : xw_A} {a0 : Nat} {a1 : Nat} {a2 : Nat} {first_a1 : Int32} {size_a1 : Int32} {beginning_a1 : Int32} (e_a1 : h a1 = some (.inr (4, [.int first_a1, .int size_a1, .int beginning_a1]))) (kt : size_a1 ≤ 0 → xw G m_Standing_placesIn F L bc bs pr px 50 [none, none, none, some (.int 0), none] [] h) (kf : ¬ size_a1 ≤ 0 → xw G m_Standing_placesIn F L bc bs pr px 9 [some (.ref a0), some (.ref a1), some (.ref a2), some (.int 0), none] [] h) : xw G m_Standing_placesIn F L bc bs pr px 0 [some (.ref a0), some (.ref a1), some (.ref a2), none, none] [] h := by
  refine x_iconst (v := 0) d_Standing_placesIn_0 (by decide) ?_
  refine x_istore_n d_Standing_placesIn_1 rfl (by decide) rfl ?_
  show xw G m_Standing_placesIn F L bc bs pr px 2 [some (.ref a0), some (.ref a1), some (.ref a2), some (.int 0), none] [] h
  refine x_aload_n d_Standing_placesIn_2 rfl rfl ?_
  refine x_get d_Standing_placesIn_3 f_Standing_49 e_a1 rfl ?_
  refine x_if_le (tgt := 50) d_Standing_placesIn_6 (by decide) (fun hc => ?_) (fun hc => ?_)
  · exact x_le (lv' := [none, none, none, some (.int 0), none]) (xw_le_n (xw_le_n (xw_le_n (xw_le_s (xw_le_n xw_le_e))))) (kt hc)
  · exact kf hc
theorem s_Standing_placesIn_9 {G : xw_G} {F L bc bs : Nat} {pr : Option Value → xw_A → Prop} {px : String → xw_A → Prop} {h : xw_A} {a0 : Nat} {a1 : Nat} {a2 : Nat} {x3 : Int32}  (k : xw G m_Standing_placesIn F L bc bs pr px 12 [some (.ref a0), some (.ref a1), some (.ref a2), some (.int x3), some (.int 0)] [] h) : xw G m_Standing_placesIn F L bc bs pr px 9 [some (.ref a0), some (.ref a1), some (.ref a2), some (.int x3), none] [] h := by
  refine x_iconst (v := 0) d_Standing_placesIn_9 (by decide) ?_
  refine x_istore d_Standing_placesIn_10 (by decide) rfl ?_
  show xw G m_Standing_placesIn F L bc bs pr px 12 [some (.ref a0), some (.ref a1), some (.ref a2), some (.int x3), some (.int 0)] [] h
  exact k
theorem s_Standing_placesIn_12 {G : xw_G} {F L bc bs : Nat} {pr : Option Value → xw_A → Prop} {px : String → xw_A → Prop} {h : xw_A} {a0 : Nat} {a1 : Nat} {a2 : Nat} {x3 : Int32} {x4 : Int32} {first_a1 : Int32} {size_a1 : Int32} {beginning_a1 : Int32} {letters_a2 : Option Nat} {starts_a2 : Option Nat} {count_a2 : Int32} (e_a1 : h a1 = some (.inr (4, [.int first_a1, .int size_a1, .int beginning_a1]))) (e_a2 : h a2 = some (.inr (9, [va_rf letters_a2, va_rf starts_a2, .int count_a2]))) (kt : count_a2 < (x4 + size_a1) → xw G m_Standing_placesIn F L bc bs pr px 50 [none, none, none, some (.int x3), none] [] h) (kf : ¬ count_a2 < (x4 + size_a1) → xw G m_Standing_placesIn F L bc bs pr px 26 [some (.ref a0), some (.ref a1), some (.ref a2), some (.int x3), some (.int x4)] [] h) : xw G m_Standing_placesIn F L bc bs pr px 12 [some (.ref a0), some (.ref a1), some (.ref a2), some (.int x3), some (.int x4)] [] h := by
  refine x_iload d_Standing_placesIn_12 rfl ?_
  refine x_aload_n d_Standing_placesIn_14 rfl rfl ?_
  refine x_get d_Standing_placesIn_15 f_Standing_49 e_a1 rfl ?_
  refine x_iadd d_Standing_placesIn_18 ?_
  refine x_aload_n d_Standing_placesIn_19 rfl rfl ?_
  refine x_get d_Standing_placesIn_20 f_Standing_54 e_a2 rfl ?_
  refine x_icmp_gt (tgt := 50) d_Standing_placesIn_23 (by decide) (fun hc => ?_) (fun hc => ?_)
  · exact x_le (lv' := [none, none, none, some (.int x3), none]) (xw_le_n (xw_le_n (xw_le_n (xw_le_s (xw_le_n xw_le_e))))) (kt hc)
  · exact kf hc
theorem s_Standing_placesIn_26 {G : xw_G} {F L bc bs : Nat} {pr : Option Value → xw_A → Prop} {px : String → xw_A → Prop} {h : xw_A} {a0 : Nat} {a1 : Nat} {a2 : Nat} {x3 : Int32} {x4 : Int32}  (k : xw G m_Standing_placesIn F L bc bs pr px 31 [some (.ref a0), some (.ref a1), some (.ref a2), some (.int x3), some (.int x4)] [.int x4, .ref a2, .ref a1, .ref a0] h) : xw G m_Standing_placesIn F L bc bs pr px 26 [some (.ref a0), some (.ref a1), some (.ref a2), some (.int x3), some (.int x4)] [] h := by
  refine x_aload_n d_Standing_placesIn_26 rfl rfl ?_
  refine x_aload_n d_Standing_placesIn_27 rfl rfl ?_
  refine x_aload_n d_Standing_placesIn_28 rfl rfl ?_
  refine x_iload d_Standing_placesIn_29 rfl ?_
  exact k
theorem s_Standing_placesIn_34 {G : xw_G} {F L bc bs : Nat} {pr : Option Value → xw_A → Prop} {px : String → xw_A → Prop} {h : xw_A} {a0 : Nat} {a1 : Nat} {a2 : Nat} {x3 : Int32} {x4 : Int32} {y0 : Int32}  (kt : y0 = 0 → xw G m_Standing_placesIn F L bc bs pr px 44 [some (.ref a0), some (.ref a1), some (.ref a2), some (.int x3), some (.int x4)] [] h) (kf : ¬ y0 = 0 → xw G m_Standing_placesIn F L bc bs pr px 37 [some (.ref a0), some (.ref a1), some (.ref a2), some (.int x3), some (.int x4)] [] h) : xw G m_Standing_placesIn F L bc bs pr px 34 [some (.ref a0), some (.ref a1), some (.ref a2), some (.int x3), some (.int x4)] [.int y0] h := by
  refine x_if_eq (tgt := 44) d_Standing_placesIn_34 (by decide) (fun hc => ?_) (fun hc => ?_)
  · exact kt hc
  · exact kf hc
theorem s_Standing_placesIn_37 {G : xw_G} {F L bc bs : Nat} {pr : Option Value → xw_A → Prop} {px : String → xw_A → Prop} {h : xw_A} {a0 : Nat} {a1 : Nat} {a2 : Nat} {x3 : Int32} {x4 : Int32}  (k : xw G m_Standing_placesIn F L bc bs pr px 44 [some (.ref a0), some (.ref a1), some (.ref a2), some (.int (x3 ||| (1 <<< (x4 &&& 31)))), some (.int x4)] [] h) : xw G m_Standing_placesIn F L bc bs pr px 37 [some (.ref a0), some (.ref a1), some (.ref a2), some (.int x3), some (.int x4)] [] h := by
  refine x_iload_n d_Standing_placesIn_37 rfl rfl ?_
  refine x_iconst (v := 1) d_Standing_placesIn_38 (by decide) ?_
  refine x_iload d_Standing_placesIn_39 rfl ?_
  refine x_ishl d_Standing_placesIn_41 ?_
  refine x_ior d_Standing_placesIn_42 ?_
  refine x_istore_n d_Standing_placesIn_43 rfl (by decide) rfl ?_
  show xw G m_Standing_placesIn F L bc bs pr px 44 [some (.ref a0), some (.ref a1), some (.ref a2), some (.int (x3 ||| (1 <<< (x4 &&& 31)))), some (.int x4)] [] h
  exact k
theorem s_Standing_placesIn_44 {G : xw_G} {F L bc bs : Nat} {pr : Option Value → xw_A → Prop} {px : String → xw_A → Prop} {h : xw_A} {a0 : Nat} {a1 : Nat} {a2 : Nat} {x3 : Int32} {x4 : Int32}  (k : xw G m_Standing_placesIn F L bc bs pr px 12 [some (.ref a0), some (.ref a1), some (.ref a2), some (.int x3), some (.int (x4 + 1))] [] h) : xw G m_Standing_placesIn F L bc bs pr px 44 [some (.ref a0), some (.ref a1), some (.ref a2), some (.int x3), some (.int x4)] [] h := by
  refine x_iinc (v := x4 + 1) d_Standing_placesIn_44 rfl (by rfl) (by decide) rfl ?_
  show xw G m_Standing_placesIn F L bc bs pr px 47 [some (.ref a0), some (.ref a1), some (.ref a2), some (.int x3), some (.int (x4 + 1))] [] h
  refine x_goto (tgt := 12) d_Standing_placesIn_47 (by decide) ?_
  exact k
theorem s_Standing_placesIn_50 {G : xw_G} {F L bc bs : Nat} {pr : Option Value → xw_A → Prop} {px : String → xw_A → Prop} {h : xw_A} {x3 : Int32}  (kr : pr (some (.int x3)) h) : xw G m_Standing_placesIn F L bc bs pr px 50 [none, none, none, some (.int x3), none] [] h := by
  refine x_iload_n d_Standing_placesIn_50 rfl rfl ?_
  exact x_iret d_Standing_placesIn_51 rfl kr
theorem s_Standing_standsAt_0 {G : xw_G} {F L bc bs : Nat} {pr : Option Value → xw_A → Prop} {px : String → xw_A → Prop} {h : xw_A} {a0 : Nat} {a1 : Nat} {a2 : Nat} {x3 : Int32}  (k : xw G m_Standing_standsAt F L bc bs pr px 3 [some (.ref a0), some (.ref a1), some (.ref a2), some (.int x3), some (.int 0), none] [] h) : xw G m_Standing_standsAt F L bc bs pr px 0 [some (.ref a0), some (.ref a1), some (.ref a2), some (.int x3), none, none] [] h := by
  refine x_iconst (v := 0) d_Standing_standsAt_0 (by decide) ?_
  refine x_istore d_Standing_standsAt_1 (by decide) rfl ?_
  show xw G m_Standing_standsAt F L bc bs pr px 3 [some (.ref a0), some (.ref a1), some (.ref a2), some (.int x3), some (.int 0), none] [] h
  exact k
theorem s_Standing_standsAt_3 {G : xw_G} {F L bc bs : Nat} {pr : Option Value → xw_A → Prop} {px : String → xw_A → Prop} {h : xw_A} {a0 : Nat} {a1 : Nat} {a2 : Nat} {x3 : Int32} {x4 : Int32} {first_a1 : Int32} {size_a1 : Int32} {beginning_a1 : Int32} (e_a1 : h a1 = some (.inr (4, [.int first_a1, .int size_a1, .int beginning_a1]))) (kt : size_a1 ≤ x4 → xw G m_Standing_standsAt F L bc bs pr px 72 [none, none, none, none, none, none] [] h) (kf : ¬ size_a1 ≤ x4 → xw G m_Standing_standsAt F L bc bs pr px 12 [some (.ref a0), some (.ref a1), some (.ref a2), some (.int x3), some (.int x4), none] [] h) : xw G m_Standing_standsAt F L bc bs pr px 3 [some (.ref a0), some (.ref a1), some (.ref a2), some (.int x3), some (.int x4), none] [] h := by
  refine x_iload d_Standing_standsAt_3 rfl ?_
  refine x_aload_n d_Standing_standsAt_5 rfl rfl ?_
  refine x_get d_Standing_standsAt_6 f_Standing_49 e_a1 rfl ?_
  refine x_icmp_ge (tgt := 72) d_Standing_standsAt_9 (by decide) (fun hc => ?_) (fun hc => ?_)
  · exact x_le (lv' := [none, none, none, none, none, none]) (xw_le_n (xw_le_n (xw_le_n (xw_le_n (xw_le_n (xw_le_n xw_le_e)))))) (kt hc)
  · exact kf hc
theorem s_Standing_standsAt_12 {G : xw_G} {F L bc bs : Nat} {pr : Option Value → xw_A → Prop} {px : String → xw_A → Prop} {h : xw_A} {a0 : Nat} {a1 : Nat} {a2 : Nat} {x3 : Int32} {x4 : Int32} {first_a1 : Int32} {size_a1 : Int32} {beginning_a1 : Int32} (e_a1 : h a1 = some (.inr (4, [.int first_a1, .int size_a1, .int beginning_a1]))) (kt : beginning_a1 = 0 → xw G m_Standing_standsAt F L bc bs pr px 34 [some (.ref a0), some (.ref a1), some (.ref a2), some (.int x3), some (.int x4), none] [] h) (kf : ¬ beginning_a1 = 0 → xw G m_Standing_standsAt F L bc bs pr px 19 [some (.ref a0), some (.ref a1), some (.ref a2), some (.int x3), some (.int x4), none] [] h) : xw G m_Standing_standsAt F L bc bs pr px 12 [some (.ref a0), some (.ref a1), some (.ref a2), some (.int x3), some (.int x4), none] [] h := by
  refine x_aload_n d_Standing_standsAt_12 rfl rfl ?_
  refine x_get d_Standing_standsAt_13 f_Standing_63 e_a1 rfl ?_
  refine x_if_eq (tgt := 34) d_Standing_standsAt_16 (by decide) (fun hc => ?_) (fun hc => ?_)
  · exact kt hc
  · exact kf hc
theorem s_Standing_standsAt_19 {G : xw_G} {F L bc bs : Nat} {pr : Option Value → xw_A → Prop} {px : String → xw_A → Prop} {h : xw_A} {a0 : Nat} {a1 : Nat} {a2 : Nat} {x3 : Int32} {x4 : Int32} {first_a1 : Int32} {size_a1 : Int32} {beginning_a1 : Int32} (e_a1 : h a1 = some (.inr (4, [.int first_a1, .int size_a1, .int beginning_a1]))) (kt : ¬ x4 = (size_a1 - 1) → xw G m_Standing_standsAt F L bc bs pr px 34 [some (.ref a0), some (.ref a1), some (.ref a2), some (.int x3), some (.int x4), none] [] h) (kf : x4 = (size_a1 - 1) → xw G m_Standing_standsAt F L bc bs pr px 30 [some (.ref a0), some (.ref a1), some (.ref a2), some (.int x3), some (.int x4), none] [] h) : xw G m_Standing_standsAt F L bc bs pr px 19 [some (.ref a0), some (.ref a1), some (.ref a2), some (.int x3), some (.int x4), none] [] h := by
  refine x_iload d_Standing_standsAt_19 rfl ?_
  refine x_aload_n d_Standing_standsAt_21 rfl rfl ?_
  refine x_get d_Standing_standsAt_22 f_Standing_49 e_a1 rfl ?_
  refine x_iconst (v := 1) d_Standing_standsAt_25 (by decide) ?_
  refine x_isub d_Standing_standsAt_26 ?_
  refine x_icmp_ne (tgt := 34) d_Standing_standsAt_27 (by decide) (fun hc => ?_) (fun hc => ?_)
  · exact kt hc
  · exact kf hc
theorem s_Standing_standsAt_30 {G : xw_G} {F L bc bs : Nat} {pr : Option Value → xw_A → Prop} {px : String → xw_A → Prop} {h : xw_A} {a0 : Nat} {a1 : Nat} {a2 : Nat} {x3 : Int32} {x4 : Int32}  (k : xw G m_Standing_standsAt F L bc bs pr px 35 [some (.ref a0), some (.ref a1), some (.ref a2), some (.int x3), some (.int x4), none] [.int 1] h) : xw G m_Standing_standsAt F L bc bs pr px 30 [some (.ref a0), some (.ref a1), some (.ref a2), some (.int x3), some (.int x4), none] [] h := by
  refine x_iconst (v := 1) d_Standing_standsAt_30 (by decide) ?_
  refine x_goto (tgt := 35) d_Standing_standsAt_31 (by decide) ?_
  exact k
theorem s_Standing_standsAt_34 {G : xw_G} {F L bc bs : Nat} {pr : Option Value → xw_A → Prop} {px : String → xw_A → Prop} {h : xw_A} {a0 : Nat} {a1 : Nat} {a2 : Nat} {x3 : Int32} {x4 : Int32}  (k : xw G m_Standing_standsAt F L bc bs pr px 35 [some (.ref a0), some (.ref a1), some (.ref a2), some (.int x3), some (.int x4), none] [.int 0] h) : xw G m_Standing_standsAt F L bc bs pr px 34 [some (.ref a0), some (.ref a1), some (.ref a2), some (.int x3), some (.int x4), none] [] h := by
  refine x_iconst (v := 0) d_Standing_standsAt_34 (by decide) ?_
  exact k
theorem s_Standing_standsAt_35 {G : xw_G} {F L bc bs : Nat} {pr : Option Value → xw_A → Prop} {px : String → xw_A → Prop} {h : xw_A} {a0 : Nat} {a1 : Nat} {a2 : Nat} {x3 : Int32} {x4 : Int32} {y0 : Int32} {places_a0 : Option Nat} {question_a0 : Nat} {tokens_question_a0 : Option Nat} {phrases_question_a0 : Option Nat} {nodes_question_a0 : Option Nat} {phraseCount_question_a0 : Int32} {nodeCount_question_a0 : Int32} {wrongPlace_question_a0 : Int32} {parts_question_a0 : Option Nat} {letters_question_a0 : Option Nat} {at_question_a0 : Int32} {first_a1 : Int32} {size_a1 : Int32} {beginning_a1 : Int32} (e_a0 : h a0 = some (.inr (7, [va_rf places_a0, .ref question_a0]))) (e_question_a0 : h question_a0 = some (.inr (5, [va_rf tokens_question_a0, va_rf phrases_question_a0, va_rf nodes_question_a0, .int phraseCount_question_a0, .int nodeCount_question_a0, .int wrongPlace_question_a0, va_rf parts_question_a0, va_rf letters_question_a0, .int at_question_a0]))) (e_a1 : h a1 = some (.inr (4, [.int first_a1, .int size_a1, .int beginning_a1]))) (k : xw G m_Standing_standsAt F L bc bs pr px 58 [some (.ref a0), some (.ref a1), some (.ref a2), some (.int x3), some (.int x4), some (.int y0)] [.int y0, .int (x3 + x4), .ref a2, .int (first_a1 + x4), va_rf tokens_question_a0] h) : xw G m_Standing_standsAt F L bc bs pr px 35 [some (.ref a0), some (.ref a1), some (.ref a2), some (.int x3), some (.int x4), none] [.int y0] h := by
  refine x_istore d_Standing_standsAt_35 (by decide) rfl ?_
  show xw G m_Standing_standsAt F L bc bs pr px 37 [some (.ref a0), some (.ref a1), some (.ref a2), some (.int x3), some (.int x4), some (.int y0)] [] h
  refine x_aload_n d_Standing_standsAt_37 rfl rfl ?_
  refine x_get d_Standing_standsAt_38 f_Standing_15 e_a0 rfl ?_
  refine x_get d_Standing_standsAt_41 f_Standing_67 e_question_a0 rfl ?_
  refine x_aload_n d_Standing_standsAt_44 rfl rfl ?_
  refine x_get d_Standing_standsAt_45 f_Standing_71 e_a1 rfl ?_
  refine x_iload d_Standing_standsAt_48 rfl ?_
  refine x_iadd d_Standing_standsAt_50 ?_
  refine x_aload_n d_Standing_standsAt_51 rfl rfl ?_
  refine x_iload_n d_Standing_standsAt_52 rfl rfl ?_
  refine x_iload d_Standing_standsAt_53 rfl ?_
  refine x_iadd d_Standing_standsAt_55 ?_
  refine x_iload d_Standing_standsAt_56 rfl ?_
  exact k
theorem s_Standing_standsAt_61 {G : xw_G} {F L bc bs : Nat} {pr : Option Value → xw_A → Prop} {px : String → xw_A → Prop} {h : xw_A} {a0 : Nat} {a1 : Nat} {a2 : Nat} {x3 : Int32} {x4 : Int32} {y0 : Int32}  (kt : ¬ y0 = 0 → xw G m_Standing_standsAt F L bc bs pr px 66 [some (.ref a0), some (.ref a1), some (.ref a2), some (.int x3), some (.int x4), none] [] h) (kf : y0 = 0 → xw G m_Standing_standsAt F L bc bs pr px 64 [none, none, none, none, none, none] [] h) : xw G m_Standing_standsAt F L bc bs pr px 61 [some (.ref a0), some (.ref a1), some (.ref a2), some (.int x3), some (.int x4), none] [.int y0] h := by
  refine x_if_ne (tgt := 66) d_Standing_standsAt_61 (by decide) (fun hc => ?_) (fun hc => ?_)
  · exact kt hc
  · exact x_le (lv' := [none, none, none, none, none, none]) (xw_le_n (xw_le_n (xw_le_n (xw_le_n (xw_le_n (xw_le_n xw_le_e)))))) (kf hc)
theorem s_Standing_standsAt_64 {G : xw_G} {F L bc bs : Nat} {pr : Option Value → xw_A → Prop} {px : String → xw_A → Prop} {h : xw_A}   (kr : pr (some (.int 0)) h) : xw G m_Standing_standsAt F L bc bs pr px 64 [none, none, none, none, none, none] [] h := by
  refine x_iconst (v := 0) d_Standing_standsAt_64 (by decide) ?_
  exact x_zret d_Standing_standsAt_65 rfl rfl kr
theorem s_Standing_standsAt_66 {G : xw_G} {F L bc bs : Nat} {pr : Option Value → xw_A → Prop} {px : String → xw_A → Prop} {h : xw_A} {a0 : Nat} {a1 : Nat} {a2 : Nat} {x3 : Int32} {x4 : Int32}  (k : xw G m_Standing_standsAt F L bc bs pr px 3 [some (.ref a0), some (.ref a1), some (.ref a2), some (.int x3), some (.int (x4 + 1)), none] [] h) : xw G m_Standing_standsAt F L bc bs pr px 66 [some (.ref a0), some (.ref a1), some (.ref a2), some (.int x3), some (.int x4), none] [] h := by
  refine x_iinc (v := x4 + 1) d_Standing_standsAt_66 rfl (by rfl) (by decide) rfl ?_
  show xw G m_Standing_standsAt F L bc bs pr px 69 [some (.ref a0), some (.ref a1), some (.ref a2), some (.int x3), some (.int (x4 + 1)), none] [] h
  refine x_goto (tgt := 3) d_Standing_standsAt_69 (by decide) ?_
  exact k
theorem s_Standing_standsAt_72 {G : xw_G} {F L bc bs : Nat} {pr : Option Value → xw_A → Prop} {px : String → xw_A → Prop} {h : xw_A}   (kr : pr (some (.int 1)) h) : xw G m_Standing_standsAt F L bc bs pr px 72 [none, none, none, none, none, none] [] h := by
  refine x_iconst (v := 1) d_Standing_standsAt_72 (by decide) ?_
  exact x_zret d_Standing_standsAt_73 rfl rfl kr
theorem s_Standing_index_0 {G : xw_G} {F L bc bs : Nat} {pr : Option Value → xw_A → Prop} {px : String → xw_A → Prop} {h : xw_A} {x0 : Int32} {x1 : Int32} {x2 : Int32}  (kr : pr (some (.int (((((x0 * 24) + x1) - 1) * 2) + x2))) h) : xw G m_Standing_index F L bc bs pr px 0 [some (.int x0), some (.int x1), some (.int x2)] [] h := by
  refine x_iload_n d_Standing_index_0 rfl rfl ?_
  refine x_bipush (v := 24) d_Standing_index_1 (by decide) ?_
  refine x_imul d_Standing_index_3 ?_
  refine x_iload_n d_Standing_index_4 rfl rfl ?_
  refine x_iadd d_Standing_index_5 ?_
  refine x_iconst (v := 1) d_Standing_index_6 (by decide) ?_
  refine x_isub d_Standing_index_7 ?_
  refine x_iconst (v := 2) d_Standing_index_8 (by decide) ?_
  refine x_imul d_Standing_index_9 ?_
  refine x_iload_n d_Standing_index_10 rfl rfl ?_
  refine x_iadd d_Standing_index_11 ?_
  exact x_iret d_Standing_index_12 rfl kr
theorem s_Standing_rowsFound_0 {G : xw_G} {F L bc bs : Nat} {pr : Option Value → xw_A → Prop} {px : String → xw_A → Prop} {h : xw_A} {a0 : Nat} {a1 : Nat}  (k : xw G m_Standing_rowsFound F L bc bs pr px 4 [some (.ref a0), some (.ref a1), some (.int 0), some (.int 0), none] [] h) : xw G m_Standing_rowsFound F L bc bs pr px 0 [some (.ref a0), some (.ref a1), none, none, none] [] h := by
  refine x_iconst (v := 0) d_Standing_rowsFound_0 (by decide) ?_
  refine x_istore_n d_Standing_rowsFound_1 rfl (by decide) rfl ?_
  show xw G m_Standing_rowsFound F L bc bs pr px 2 [some (.ref a0), some (.ref a1), some (.int 0), none, none] [] h
  refine x_iconst (v := 0) d_Standing_rowsFound_2 (by decide) ?_
  refine x_istore_n d_Standing_rowsFound_3 rfl (by decide) rfl ?_
  show xw G m_Standing_rowsFound F L bc bs pr px 4 [some (.ref a0), some (.ref a1), some (.int 0), some (.int 0), none] [] h
  exact k
theorem s_Standing_rowsFound_4 {G : xw_G} {F L bc bs : Nat} {pr : Option Value → xw_A → Prop} {px : String → xw_A → Prop} {h : xw_A} {a0 : Nat} {a1 : Nat} {x2 : Int32} {x3 : Int32} {tokens_a1 : Option Nat} {phrases_a1 : Option Nat} {nodes_a1 : Option Nat} {phraseCount_a1 : Int32} {nodeCount_a1 : Int32} {wrongPlace_a1 : Int32} {parts_a1 : Option Nat} {letters_a1 : Option Nat} {at_a1 : Int32} (e_a1 : h a1 = some (.inr (5, [va_rf tokens_a1, va_rf phrases_a1, va_rf nodes_a1, .int phraseCount_a1, .int nodeCount_a1, .int wrongPlace_a1, va_rf parts_a1, va_rf letters_a1, .int at_a1]))) (kt : nodeCount_a1 ≤ x3 → xw G m_Standing_rowsFound F L bc bs pr px 59 [none, none, some (.int x2), none, none] [] h) (kf : ¬ nodeCount_a1 ≤ x3 → xw G m_Standing_rowsFound F L bc bs pr px 12 [some (.ref a0), some (.ref a1), none, some (.int x3), none] [] h) : xw G m_Standing_rowsFound F L bc bs pr px 4 [some (.ref a0), some (.ref a1), some (.int x2), some (.int x3), none] [] h := by
  refine x_iload_n d_Standing_rowsFound_4 rfl rfl ?_
  refine x_aload_n d_Standing_rowsFound_5 rfl rfl ?_
  refine x_get d_Standing_rowsFound_6 f_Standing_85 e_a1 rfl ?_
  refine x_icmp_ge (tgt := 59) d_Standing_rowsFound_9 (by decide) (fun hc => ?_) (fun hc => ?_)
  · exact x_le (lv' := [none, none, some (.int x2), none, none]) (xw_le_n (xw_le_n (xw_le_s (xw_le_n (xw_le_n xw_le_e))))) (kt hc)
  · exact x_le (lv' := [some (.ref a0), some (.ref a1), none, some (.int x3), none]) (xw_le_s (xw_le_s (xw_le_n (xw_le_s (xw_le_n xw_le_e))))) (kf hc)
theorem s_Standing_rowsFound_12 {G : xw_G} {F L bc bs : Nat} {pr : Option Value → xw_A → Prop} {px : String → xw_A → Prop} {h : xw_A} {a0 : Nat} {a1 : Nat} {x3 : Int32} {tokens_a1 : Option Nat} {phrases_a1 : Option Nat} {nodes_a1 : Nat} {phraseCount_a1 : Int32} {nodeCount_a1 : Int32} {wrongPlace_a1 : Int32} {parts_a1 : Option Nat} {letters_a1 : Option Nat} {at_a1 : Int32} {n_nodes_a1 : Nat} {f_nodes_a1 : Nat → Option Nat} {g17 : Nat} {kind_g17 : Int32} {left_g17 : Option Nat} {right_g17 : Option Nat} {firstPhrase_g17 : Int32} {phraseEnd_g17 : Int32} {reach_g17 : Int32} {columns_g17 : Int32} {places_g17 : Int32} {rows_g17 : Int32} (e_a1 : h a1 = some (.inr (5, [va_rf tokens_a1, va_rf phrases_a1, .ref nodes_a1, .int phraseCount_a1, .int nodeCount_a1, .int wrongPlace_a1, va_rf parts_a1, va_rf letters_a1, .int at_a1]))) (e_nodes_a1 : h nodes_a1 = some (.inl (2 + 6, n_nodes_a1, .inr (.inr (.inr (.inr f_nodes_a1)))))) (i_17 : vp_in x3 n_nodes_a1) (g_17 : f_nodes_a1 x3.toNatClampNeg = some g17) (e_g17 : h g17 = some (.inr (2, [.int kind_g17, va_rf left_g17, va_rf right_g17, .int firstPhrase_g17, .int phraseEnd_g17, .int reach_g17, .int columns_g17, .int places_g17, .int rows_g17]))) (kt : ¬ kind_g17 = 0 → xw G m_Standing_rowsFound F L bc bs pr px 39 [some (.ref a0), some (.ref a1), none, some (.int x3), some (.ref g17)] [.ref g17] h) (kf : kind_g17 = 0 → xw G m_Standing_rowsFound F L bc bs pr px 30 [some (.ref a0), some (.ref a1), none, some (.int x3), some (.ref g17)] [.ref g17] h) : xw G m_Standing_rowsFound F L bc bs pr px 12 [some (.ref a0), some (.ref a1), none, some (.int x3), none] [] h := by
  refine x_aload_n d_Standing_rowsFound_12 rfl rfl ?_
  refine x_get d_Standing_rowsFound_13 f_Standing_88 e_a1 rfl ?_
  refine x_iload_n d_Standing_rowsFound_16 rfl rfl ?_
  refine x_aald (v := .ref g17) d_Standing_rowsFound_17 e_nodes_a1 i_17 (by rw [g_17]; rfl) ?_
  refine x_astore d_Standing_rowsFound_18 (by decide) rfl ?_
  show xw G m_Standing_rowsFound F L bc bs pr px 20 [some (.ref a0), some (.ref a1), none, some (.int x3), some (.ref g17)] [] h
  refine x_aload d_Standing_rowsFound_20 rfl ?_
  refine x_aload d_Standing_rowsFound_22 rfl ?_
  refine x_get d_Standing_rowsFound_24 f_Standing_92 e_g17 rfl ?_
  refine x_if_ne (tgt := 39) d_Standing_rowsFound_27 (by decide) (fun hc => ?_) (fun hc => ?_)
  · exact kt hc
  · exact kf hc
theorem s_Standing_rowsFound_30 {G : xw_G} {F L bc bs : Nat} {pr : Option Value → xw_A → Prop} {px : String → xw_A → Prop} {h : xw_A} {a0 : Nat} {a1 : Nat} {x3 : Int32} {a4 : Nat}  (k : xw G m_Standing_rowsFound F L bc bs pr px 33 [some (.ref a0), some (.ref a1), none, some (.int x3), some (.ref a4)] [.ref a4, .ref a0, .ref a4] h) : xw G m_Standing_rowsFound F L bc bs pr px 30 [some (.ref a0), some (.ref a1), none, some (.int x3), some (.ref a4)] [.ref a4] h := by
  refine x_aload_n d_Standing_rowsFound_30 rfl rfl ?_
  refine x_aload d_Standing_rowsFound_31 rfl ?_
  exact k
theorem s_Standing_rowsFound_36 {G : xw_G} {F L bc bs : Nat} {pr : Option Value → xw_A → Prop} {px : String → xw_A → Prop} {h : xw_A} {a0 : Nat} {a1 : Nat} {x3 : Int32} {a4 : Nat} {y0 : Int32}  (k : xw G m_Standing_rowsFound F L bc bs pr px 44 [some (.ref a0), some (.ref a1), none, some (.int x3), some (.ref a4)] [.int y0, .ref a4] h) : xw G m_Standing_rowsFound F L bc bs pr px 36 [some (.ref a0), some (.ref a1), none, some (.int x3), some (.ref a4)] [.int y0, .ref a4] h := by
  refine x_goto (tgt := 44) d_Standing_rowsFound_36 (by decide) ?_
  exact k
theorem s_Standing_rowsFound_39 {G : xw_G} {F L bc bs : Nat} {pr : Option Value → xw_A → Prop} {px : String → xw_A → Prop} {h : xw_A} {a0 : Nat} {a1 : Nat} {x3 : Int32} {a4 : Nat}  (k : xw G m_Standing_rowsFound F L bc bs pr px 41 [some (.ref a0), some (.ref a1), none, some (.int x3), some (.ref a4)] [.ref a4, .ref a4] h) : xw G m_Standing_rowsFound F L bc bs pr px 39 [some (.ref a0), some (.ref a1), none, some (.int x3), some (.ref a4)] [.ref a4] h := by
  refine x_aload d_Standing_rowsFound_39 rfl ?_
  exact k
theorem s_Standing_rowsFound_44 {G : xw_G} {F L bc bs : Nat} {pr : Option Value → xw_A → Prop} {px : String → xw_A → Prop} {h : xw_A} {a0 : Nat} {a1 : Nat} {x3 : Int32} {a4 : Nat} {y0 : Int32} {kind_a4 : Int32} {left_a4 : Option Nat} {right_a4 : Option Nat} {firstPhrase_a4 : Int32} {phraseEnd_a4 : Int32} {reach_a4 : Int32} {columns_a4 : Int32} {places_a4 : Int32} {rows_a4 : Int32} (e_a4 : h a4 = some (.inr (2, [.int kind_a4, va_rf left_a4, va_rf right_a4, .int firstPhrase_a4, .int phraseEnd_a4, .int reach_a4, .int columns_a4, .int places_a4, .int rows_a4]))) (k : xw G m_Standing_rowsFound F L bc bs pr px 4 [some (.ref a0), some (.ref a1), some (.int y0), some (.int (x3 + 1)), none] [] (xw_up h a4 (.inr (2, [.int kind_a4, va_rf left_a4, va_rf right_a4, .int firstPhrase_a4, .int phraseEnd_a4, .int reach_a4, .int columns_a4, .int places_a4, .int y0])))) : xw G m_Standing_rowsFound F L bc bs pr px 44 [some (.ref a0), some (.ref a1), none, some (.int x3), some (.ref a4)] [.int y0, .ref a4] h := by
  refine x_put (ty := .int) d_Standing_rowsFound_44 f_Standing_104 fw_Node_8.1 fw_Node_8.2 rfl rfl (Nat.le_of_ble_eq_true rfl) e_a4 ?_
  show xw G m_Standing_rowsFound F L bc bs pr px 47 [some (.ref a0), some (.ref a1), none, some (.int x3), some (.ref a4)] [] (xw_up h a4 (.inr (2, [.int kind_a4, va_rf left_a4, va_rf right_a4, .int firstPhrase_a4, .int phraseEnd_a4, .int reach_a4, .int columns_a4, .int places_a4, .int y0])))
  refine x_aload d_Standing_rowsFound_47 rfl ?_
  refine x_get d_Standing_rowsFound_49 f_Standing_104 (xw_up_s _ _ _) rfl ?_
  refine x_istore_n d_Standing_rowsFound_52 rfl (by decide) rfl ?_
  show xw G m_Standing_rowsFound F L bc bs pr px 53 [some (.ref a0), some (.ref a1), some (.int y0), some (.int x3), some (.ref a4)] [] (xw_up h a4 (.inr (2, [.int kind_a4, va_rf left_a4, va_rf right_a4, .int firstPhrase_a4, .int phraseEnd_a4, .int reach_a4, .int columns_a4, .int places_a4, .int y0])))
  refine x_iinc (v := x3 + 1) d_Standing_rowsFound_53 rfl (by rfl) (by decide) rfl ?_
  show xw G m_Standing_rowsFound F L bc bs pr px 56 [some (.ref a0), some (.ref a1), some (.int y0), some (.int (x3 + 1)), some (.ref a4)] [] (xw_up h a4 (.inr (2, [.int kind_a4, va_rf left_a4, va_rf right_a4, .int firstPhrase_a4, .int phraseEnd_a4, .int reach_a4, .int columns_a4, .int places_a4, .int y0])))
  refine x_goto (tgt := 4) d_Standing_rowsFound_56 (by decide) ?_
  exact x_le (lv' := [some (.ref a0), some (.ref a1), some (.int y0), some (.int (x3 + 1)), none]) (xw_le_s (xw_le_s (xw_le_s (xw_le_s (xw_le_n xw_le_e))))) (k)
theorem s_Standing_rowsFound_59 {G : xw_G} {F L bc bs : Nat} {pr : Option Value → xw_A → Prop} {px : String → xw_A → Prop} {h : xw_A} {x2 : Int32}  (kr : pr (some (.int x2)) h) : xw G m_Standing_rowsFound F L bc bs pr px 59 [none, none, some (.int x2), none, none] [] h := by
  refine x_iload_n d_Standing_rowsFound_59 rfl rfl ?_
  exact x_iret d_Standing_rowsFound_60 rfl kr
theorem s_Standing_rowsOfGroup_0 {G : xw_G} {F L bc bs : Nat} {pr : Option Value → xw_A → Prop} {px : String → xw_A → Prop} {h : xw_A} {a0 : Nat} {a1 : Nat}  (k : xw G m_Standing_rowsOfGroup F L bc bs pr px 4 [some (.ref a0), some (.ref a1), some (.int 0), some (.int 1), none] [] h) : xw G m_Standing_rowsOfGroup F L bc bs pr px 0 [some (.ref a0), some (.ref a1), none, none, none] [] h := by
  refine x_iconst (v := 0) d_Standing_rowsOfGroup_0 (by decide) ?_
  refine x_istore_n d_Standing_rowsOfGroup_1 rfl (by decide) rfl ?_
  show xw G m_Standing_rowsOfGroup F L bc bs pr px 2 [some (.ref a0), some (.ref a1), some (.int 0), none, none] [] h
  refine x_iconst (v := 1) d_Standing_rowsOfGroup_2 (by decide) ?_
  refine x_istore_n d_Standing_rowsOfGroup_3 rfl (by decide) rfl ?_
  show xw G m_Standing_rowsOfGroup F L bc bs pr px 4 [some (.ref a0), some (.ref a1), some (.int 0), some (.int 1), none] [] h
  exact k
theorem s_Standing_rowsOfGroup_4 {G : xw_G} {F L bc bs : Nat} {pr : Option Value → xw_A → Prop} {px : String → xw_A → Prop} {h : xw_A} {a0 : Nat} {a1 : Nat} {x2 : Int32} {x3 : Int32}  (kt : 24 < x3 → xw G m_Standing_rowsOfGroup F L bc bs pr px 61 [none, none, some (.int x2), none, none] [] h) (kf : ¬ 24 < x3 → xw G m_Standing_rowsOfGroup F L bc bs pr px 10 [some (.ref a0), some (.ref a1), some (.int x2), some (.int x3), none] [] h) : xw G m_Standing_rowsOfGroup F L bc bs pr px 4 [some (.ref a0), some (.ref a1), some (.int x2), some (.int x3), none] [] h := by
  refine x_iload_n d_Standing_rowsOfGroup_4 rfl rfl ?_
  refine x_bipush (v := 24) d_Standing_rowsOfGroup_5 (by decide) ?_
  refine x_icmp_gt (tgt := 61) d_Standing_rowsOfGroup_7 (by decide) (fun hc => ?_) (fun hc => ?_)
  · exact x_le (lv' := [none, none, some (.int x2), none, none]) (xw_le_n (xw_le_n (xw_le_s (xw_le_n (xw_le_n xw_le_e))))) (kt hc)
  · exact kf hc
theorem s_Standing_rowsOfGroup_10 {G : xw_G} {F L bc bs : Nat} {pr : Option Value → xw_A → Prop} {px : String → xw_A → Prop} {h : xw_A} {a0 : Nat} {a1 : Nat} {x2 : Int32} {x3 : Int32}  (k : xw G m_Standing_rowsOfGroup F L bc bs pr px 13 [some (.ref a0), some (.ref a1), some (.int x2), some (.int x3), some (.int 0)] [] h) : xw G m_Standing_rowsOfGroup F L bc bs pr px 10 [some (.ref a0), some (.ref a1), some (.int x2), some (.int x3), none] [] h := by
  refine x_iconst (v := 0) d_Standing_rowsOfGroup_10 (by decide) ?_
  refine x_istore d_Standing_rowsOfGroup_11 (by decide) rfl ?_
  show xw G m_Standing_rowsOfGroup F L bc bs pr px 13 [some (.ref a0), some (.ref a1), some (.int x2), some (.int x3), some (.int 0)] [] h
  exact k
theorem s_Standing_rowsOfGroup_13 {G : xw_G} {F L bc bs : Nat} {pr : Option Value → xw_A → Prop} {px : String → xw_A → Prop} {h : xw_A} {a0 : Nat} {a1 : Nat} {x2 : Int32} {x3 : Int32} {x4 : Int32}  (kt : 2 ≤ x4 → xw G m_Standing_rowsOfGroup F L bc bs pr px 55 [some (.ref a0), some (.ref a1), some (.int x2), some (.int x3), none] [] h) (kf : ¬ 2 ≤ x4 → xw G m_Standing_rowsOfGroup F L bc bs pr px 19 [some (.ref a0), some (.ref a1), some (.int x2), some (.int x3), some (.int x4)] [] h) : xw G m_Standing_rowsOfGroup F L bc bs pr px 13 [some (.ref a0), some (.ref a1), some (.int x2), some (.int x3), some (.int x4)] [] h := by
  refine x_iload d_Standing_rowsOfGroup_13 rfl ?_
  refine x_iconst (v := 2) d_Standing_rowsOfGroup_15 (by decide) ?_
  refine x_icmp_ge (tgt := 55) d_Standing_rowsOfGroup_16 (by decide) (fun hc => ?_) (fun hc => ?_)
  · exact x_le (lv' := [some (.ref a0), some (.ref a1), some (.int x2), some (.int x3), none]) (xw_le_s (xw_le_s (xw_le_s (xw_le_s (xw_le_n xw_le_e))))) (kt hc)
  · exact kf hc
theorem s_Standing_rowsOfGroup_19 {G : xw_G} {F L bc bs : Nat} {pr : Option Value → xw_A → Prop} {px : String → xw_A → Prop} {h : xw_A} {a0 : Nat} {a1 : Nat} {x2 : Int32} {x3 : Int32} {x4 : Int32} {kind_a1 : Int32} {left_a1 : Option Nat} {right_a1 : Option Nat} {firstPhrase_a1 : Int32} {phraseEnd_a1 : Int32} {reach_a1 : Int32} {columns_a1 : Int32} {places_a1 : Int32} {rows_a1 : Int32} (e_a1 : h a1 = some (.inr (2, [.int kind_a1, va_rf left_a1, va_rf right_a1, .int firstPhrase_a1, .int phraseEnd_a1, .int reach_a1, .int columns_a1, .int places_a1, .int rows_a1]))) (kt : ¬ ((columns_a1 >>> (x4 &&& 31)) &&& 1) = 1 → xw G m_Standing_rowsOfGroup F L bc bs pr px 49 [some (.ref a0), some (.ref a1), some (.int x2), some (.int x3), some (.int x4)] [] h) (kf : ((columns_a1 >>> (x4 &&& 31)) &&& 1) = 1 → xw G m_Standing_rowsOfGroup F L bc bs pr px 32 [some (.ref a0), some (.ref a1), some (.int x2), some (.int x3), some (.int x4)] [] h) : xw G m_Standing_rowsOfGroup F L bc bs pr px 19 [some (.ref a0), some (.ref a1), some (.int x2), some (.int x3), some (.int x4)] [] h := by
  refine x_aload_n d_Standing_rowsOfGroup_19 rfl rfl ?_
  refine x_get d_Standing_rowsOfGroup_20 f_Standing_116 e_a1 rfl ?_
  refine x_iload d_Standing_rowsOfGroup_23 rfl ?_
  refine x_ishr d_Standing_rowsOfGroup_25 ?_
  refine x_iconst (v := 1) d_Standing_rowsOfGroup_26 (by decide) ?_
  refine x_iand d_Standing_rowsOfGroup_27 ?_
  refine x_iconst (v := 1) d_Standing_rowsOfGroup_28 (by decide) ?_
  refine x_icmp_ne (tgt := 49) d_Standing_rowsOfGroup_29 (by decide) (fun hc => ?_) (fun hc => ?_)
  · exact kt hc
  · exact kf hc
theorem s_Standing_rowsOfGroup_32 {G : xw_G} {F L bc bs : Nat} {pr : Option Value → xw_A → Prop} {px : String → xw_A → Prop} {h : xw_A} {a0 : Nat} {a1 : Nat} {x2 : Int32} {x3 : Int32} {x4 : Int32}  (k : xw G m_Standing_rowsOfGroup F L bc bs pr px 37 [some (.ref a0), some (.ref a1), some (.int x2), some (.int x3), some (.int x4)] [.int x4, .int x3, .ref a1, .ref a0] h) : xw G m_Standing_rowsOfGroup F L bc bs pr px 32 [some (.ref a0), some (.ref a1), some (.int x2), some (.int x3), some (.int x4)] [] h := by
  refine x_aload_n d_Standing_rowsOfGroup_32 rfl rfl ?_
  refine x_aload_n d_Standing_rowsOfGroup_33 rfl rfl ?_
  refine x_iload_n d_Standing_rowsOfGroup_34 rfl rfl ?_
  refine x_iload d_Standing_rowsOfGroup_35 rfl ?_
  exact k
theorem s_Standing_rowsOfGroup_40 {G : xw_G} {F L bc bs : Nat} {pr : Option Value → xw_A → Prop} {px : String → xw_A → Prop} {h : xw_A} {a0 : Nat} {a1 : Nat} {x2 : Int32} {x3 : Int32} {x4 : Int32} {y0 : Int32}  (kt : y0 = 0 → xw G m_Standing_rowsOfGroup F L bc bs pr px 49 [some (.ref a0), some (.ref a1), some (.int x2), some (.int x3), some (.int x4)] [] h) (kf : ¬ y0 = 0 → xw G m_Standing_rowsOfGroup F L bc bs pr px 43 [some (.ref a0), some (.ref a1), some (.int x2), some (.int x3), some (.int x4)] [] h) : xw G m_Standing_rowsOfGroup F L bc bs pr px 40 [some (.ref a0), some (.ref a1), some (.int x2), some (.int x3), some (.int x4)] [.int y0] h := by
  refine x_if_eq (tgt := 49) d_Standing_rowsOfGroup_40 (by decide) (fun hc => ?_) (fun hc => ?_)
  · exact kt hc
  · exact kf hc
theorem s_Standing_rowsOfGroup_43 {G : xw_G} {F L bc bs : Nat} {pr : Option Value → xw_A → Prop} {px : String → xw_A → Prop} {h : xw_A} {a0 : Nat} {a1 : Nat} {x2 : Int32} {x3 : Int32} {x4 : Int32}  (k : xw G m_Standing_rowsOfGroup F L bc bs pr px 49 [some (.ref a0), some (.ref a1), some (.int (x2 ||| (1 <<< (x3 &&& 31)))), some (.int x3), some (.int x4)] [] h) : xw G m_Standing_rowsOfGroup F L bc bs pr px 43 [some (.ref a0), some (.ref a1), some (.int x2), some (.int x3), some (.int x4)] [] h := by
  refine x_iload_n d_Standing_rowsOfGroup_43 rfl rfl ?_
  refine x_iconst (v := 1) d_Standing_rowsOfGroup_44 (by decide) ?_
  refine x_iload_n d_Standing_rowsOfGroup_45 rfl rfl ?_
  refine x_ishl d_Standing_rowsOfGroup_46 ?_
  refine x_ior d_Standing_rowsOfGroup_47 ?_
  refine x_istore_n d_Standing_rowsOfGroup_48 rfl (by decide) rfl ?_
  show xw G m_Standing_rowsOfGroup F L bc bs pr px 49 [some (.ref a0), some (.ref a1), some (.int (x2 ||| (1 <<< (x3 &&& 31)))), some (.int x3), some (.int x4)] [] h
  exact k
theorem s_Standing_rowsOfGroup_49 {G : xw_G} {F L bc bs : Nat} {pr : Option Value → xw_A → Prop} {px : String → xw_A → Prop} {h : xw_A} {a0 : Nat} {a1 : Nat} {x2 : Int32} {x3 : Int32} {x4 : Int32}  (k : xw G m_Standing_rowsOfGroup F L bc bs pr px 13 [some (.ref a0), some (.ref a1), some (.int x2), some (.int x3), some (.int (x4 + 1))] [] h) : xw G m_Standing_rowsOfGroup F L bc bs pr px 49 [some (.ref a0), some (.ref a1), some (.int x2), some (.int x3), some (.int x4)] [] h := by
  refine x_iinc (v := x4 + 1) d_Standing_rowsOfGroup_49 rfl (by rfl) (by decide) rfl ?_
  show xw G m_Standing_rowsOfGroup F L bc bs pr px 52 [some (.ref a0), some (.ref a1), some (.int x2), some (.int x3), some (.int (x4 + 1))] [] h
  refine x_goto (tgt := 13) d_Standing_rowsOfGroup_52 (by decide) ?_
  exact k
theorem s_Standing_rowsOfGroup_55 {G : xw_G} {F L bc bs : Nat} {pr : Option Value → xw_A → Prop} {px : String → xw_A → Prop} {h : xw_A} {a0 : Nat} {a1 : Nat} {x2 : Int32} {x3 : Int32}  (k : xw G m_Standing_rowsOfGroup F L bc bs pr px 4 [some (.ref a0), some (.ref a1), some (.int x2), some (.int (x3 + 1)), none] [] h) : xw G m_Standing_rowsOfGroup F L bc bs pr px 55 [some (.ref a0), some (.ref a1), some (.int x2), some (.int x3), none] [] h := by
  refine x_iinc (v := x3 + 1) d_Standing_rowsOfGroup_55 rfl (by rfl) (by decide) rfl ?_
  show xw G m_Standing_rowsOfGroup F L bc bs pr px 58 [some (.ref a0), some (.ref a1), some (.int x2), some (.int (x3 + 1)), none] [] h
  refine x_goto (tgt := 4) d_Standing_rowsOfGroup_58 (by decide) ?_
  exact k
theorem s_Standing_rowsOfGroup_61 {G : xw_G} {F L bc bs : Nat} {pr : Option Value → xw_A → Prop} {px : String → xw_A → Prop} {h : xw_A} {x2 : Int32}  (kr : pr (some (.int x2)) h) : xw G m_Standing_rowsOfGroup F L bc bs pr px 61 [none, none, some (.int x2), none, none] [] h := by
  refine x_iload_n d_Standing_rowsOfGroup_61 rfl rfl ?_
  exact x_iret d_Standing_rowsOfGroup_62 rfl kr
theorem s_Standing_holds_0 {G : xw_G} {F L bc bs : Nat} {pr : Option Value → xw_A → Prop} {px : String → xw_A → Prop} {h : xw_A} {a0 : Nat} {a1 : Nat} {x2 : Int32} {x3 : Int32} {kind_a1 : Int32} {left_a1 : Option Nat} {right_a1 : Option Nat} {firstPhrase_a1 : Int32} {phraseEnd_a1 : Int32} {reach_a1 : Int32} {columns_a1 : Int32} {places_a1 : Int32} {rows_a1 : Int32} (e_a1 : h a1 = some (.inr (2, [.int kind_a1, va_rf left_a1, va_rf right_a1, .int firstPhrase_a1, .int phraseEnd_a1, .int reach_a1, .int columns_a1, .int places_a1, .int rows_a1]))) (k : xw G m_Standing_holds F L bc bs pr px 6 [some (.ref a0), some (.ref a1), some (.int x2), some (.int x3), some (.int firstPhrase_a1)] [] h) : xw G m_Standing_holds F L bc bs pr px 0 [some (.ref a0), some (.ref a1), some (.int x2), some (.int x3), none] [] h := by
  refine x_aload_n d_Standing_holds_0 rfl rfl ?_
  refine x_get d_Standing_holds_1 f_Standing_123 e_a1 rfl ?_
  refine x_istore d_Standing_holds_4 (by decide) rfl ?_
  show xw G m_Standing_holds F L bc bs pr px 6 [some (.ref a0), some (.ref a1), some (.int x2), some (.int x3), some (.int firstPhrase_a1)] [] h
  exact k
theorem s_Standing_holds_6 {G : xw_G} {F L bc bs : Nat} {pr : Option Value → xw_A → Prop} {px : String → xw_A → Prop} {h : xw_A} {a0 : Nat} {a1 : Nat} {x2 : Int32} {x3 : Int32} {x4 : Int32} {kind_a1 : Int32} {left_a1 : Option Nat} {right_a1 : Option Nat} {firstPhrase_a1 : Int32} {phraseEnd_a1 : Int32} {reach_a1 : Int32} {columns_a1 : Int32} {places_a1 : Int32} {rows_a1 : Int32} (e_a1 : h a1 = some (.inr (2, [.int kind_a1, va_rf left_a1, va_rf right_a1, .int firstPhrase_a1, .int phraseEnd_a1, .int reach_a1, .int columns_a1, .int places_a1, .int rows_a1]))) (kt : phraseEnd_a1 ≤ x4 → xw G m_Standing_holds F L bc bs pr px 39 [some (.ref a0), some (.ref a1), some (.int x2), some (.int x3), none] [] h) (kf : ¬ phraseEnd_a1 ≤ x4 → xw G m_Standing_holds F L bc bs pr px 15 [some (.ref a0), some (.ref a1), some (.int x2), some (.int x3), some (.int x4)] [] h) : xw G m_Standing_holds F L bc bs pr px 6 [some (.ref a0), some (.ref a1), some (.int x2), some (.int x3), some (.int x4)] [] h := by
  refine x_iload d_Standing_holds_6 rfl ?_
  refine x_aload_n d_Standing_holds_8 rfl rfl ?_
  refine x_get d_Standing_holds_9 f_Standing_126 e_a1 rfl ?_
  refine x_icmp_ge (tgt := 39) d_Standing_holds_12 (by decide) (fun hc => ?_) (fun hc => ?_)
  · exact x_le (lv' := [some (.ref a0), some (.ref a1), some (.int x2), some (.int x3), none]) (xw_le_s (xw_le_s (xw_le_s (xw_le_s (xw_le_n xw_le_e))))) (kt hc)
  · exact kf hc
theorem s_Standing_holds_15 {G : xw_G} {F L bc bs : Nat} {pr : Option Value → xw_A → Prop} {px : String → xw_A → Prop} {h : xw_A} {a0 : Nat} {a1 : Nat} {x2 : Int32} {x3 : Int32} {x4 : Int32}  (k : xw G m_Standing_holds F L bc bs pr px 20 [some (.ref a0), some (.ref a1), some (.int x2), some (.int x3), some (.int x4)] [.int x3, .int x2, .int x4, .ref a0] h) : xw G m_Standing_holds F L bc bs pr px 15 [some (.ref a0), some (.ref a1), some (.int x2), some (.int x3), some (.int x4)] [] h := by
  refine x_aload_n d_Standing_holds_15 rfl rfl ?_
  refine x_iload d_Standing_holds_16 rfl ?_
  refine x_iload_n d_Standing_holds_18 rfl rfl ?_
  refine x_iload_n d_Standing_holds_19 rfl rfl ?_
  exact k
theorem s_Standing_holds_23 {G : xw_G} {F L bc bs : Nat} {pr : Option Value → xw_A → Prop} {px : String → xw_A → Prop} {h : xw_A} {a0 : Nat} {a1 : Nat} {x2 : Int32} {x3 : Int32} {x4 : Int32} {y0 : Int32} {kind_a1 : Int32} {left_a1 : Option Nat} {right_a1 : Option Nat} {firstPhrase_a1 : Int32} {phraseEnd_a1 : Int32} {reach_a1 : Int32} {columns_a1 : Int32} {places_a1 : Int32} {rows_a1 : Int32} (e_a1 : h a1 = some (.inr (2, [.int kind_a1, va_rf left_a1, va_rf right_a1, .int firstPhrase_a1, .int phraseEnd_a1, .int reach_a1, .int columns_a1, .int places_a1, .int rows_a1]))) (kt : ¬ (y0 &&& places_a1) = 0 → xw G m_Standing_holds F L bc bs pr px 33 [some (.ref a0), some (.ref a1), some (.int x2), some (.int x3), some (.int x4)] [] h) (kf : (y0 &&& places_a1) = 0 → xw G m_Standing_holds F L bc bs pr px 31 [none, none, none, none, none] [] h) : xw G m_Standing_holds F L bc bs pr px 23 [some (.ref a0), some (.ref a1), some (.int x2), some (.int x3), some (.int x4)] [.int y0] h := by
  refine x_aload_n d_Standing_holds_23 rfl rfl ?_
  refine x_get d_Standing_holds_24 f_Standing_129 e_a1 rfl ?_
  refine x_iand d_Standing_holds_27 ?_
  refine x_if_ne (tgt := 33) d_Standing_holds_28 (by decide) (fun hc => ?_) (fun hc => ?_)
  · exact kt hc
  · exact x_le (lv' := [none, none, none, none, none]) (xw_le_n (xw_le_n (xw_le_n (xw_le_n (xw_le_n xw_le_e))))) (kf hc)
theorem s_Standing_holds_31 {G : xw_G} {F L bc bs : Nat} {pr : Option Value → xw_A → Prop} {px : String → xw_A → Prop} {h : xw_A}   (kr : pr (some (.int 0)) h) : xw G m_Standing_holds F L bc bs pr px 31 [none, none, none, none, none] [] h := by
  refine x_iconst (v := 0) d_Standing_holds_31 (by decide) ?_
  exact x_zret d_Standing_holds_32 rfl rfl kr
theorem s_Standing_holds_33 {G : xw_G} {F L bc bs : Nat} {pr : Option Value → xw_A → Prop} {px : String → xw_A → Prop} {h : xw_A} {a0 : Nat} {a1 : Nat} {x2 : Int32} {x3 : Int32} {x4 : Int32}  (k : xw G m_Standing_holds F L bc bs pr px 6 [some (.ref a0), some (.ref a1), some (.int x2), some (.int x3), some (.int (x4 + 1))] [] h) : xw G m_Standing_holds F L bc bs pr px 33 [some (.ref a0), some (.ref a1), some (.int x2), some (.int x3), some (.int x4)] [] h := by
  refine x_iinc (v := x4 + 1) d_Standing_holds_33 rfl (by rfl) (by decide) rfl ?_
  show xw G m_Standing_holds F L bc bs pr px 36 [some (.ref a0), some (.ref a1), some (.int x2), some (.int x3), some (.int (x4 + 1))] [] h
  refine x_goto (tgt := 6) d_Standing_holds_36 (by decide) ?_
  exact k
theorem s_Standing_holds_39 {G : xw_G} {F L bc bs : Nat} {pr : Option Value → xw_A → Prop} {px : String → xw_A → Prop} {h : xw_A} {a0 : Nat} {a1 : Nat} {x2 : Int32} {x3 : Int32} {kind_a1 : Int32} {left_a1 : Option Nat} {right_a1 : Option Nat} {firstPhrase_a1 : Int32} {phraseEnd_a1 : Int32} {reach_a1 : Int32} {columns_a1 : Int32} {places_a1 : Int32} {rows_a1 : Int32} (e_a1 : h a1 = some (.inr (2, [.int kind_a1, va_rf left_a1, va_rf right_a1, .int firstPhrase_a1, .int phraseEnd_a1, .int reach_a1, .int columns_a1, .int places_a1, .int rows_a1]))) (kt : (phraseEnd_a1 - firstPhrase_a1) = 1 → xw G m_Standing_holds F L bc bs pr px 62 [none, none, none, none, none] [] h) (kf : ¬ (phraseEnd_a1 - firstPhrase_a1) = 1 → xw G m_Standing_holds F L bc bs pr px 52 [some (.ref a0), some (.ref a1), some (.int x2), some (.int x3), none] [] h) : xw G m_Standing_holds F L bc bs pr px 39 [some (.ref a0), some (.ref a1), some (.int x2), some (.int x3), none] [] h := by
  refine x_aload_n d_Standing_holds_39 rfl rfl ?_
  refine x_get d_Standing_holds_40 f_Standing_126 e_a1 rfl ?_
  refine x_aload_n d_Standing_holds_43 rfl rfl ?_
  refine x_get d_Standing_holds_44 f_Standing_123 e_a1 rfl ?_
  refine x_isub d_Standing_holds_47 ?_
  refine x_iconst (v := 1) d_Standing_holds_48 (by decide) ?_
  refine x_icmp_eq (tgt := 62) d_Standing_holds_49 (by decide) (fun hc => ?_) (fun hc => ?_)
  · exact x_le (lv' := [none, none, none, none, none]) (xw_le_n (xw_le_n (xw_le_n (xw_le_n (xw_le_n xw_le_e))))) (kt hc)
  · exact kf hc
theorem s_Standing_holds_52 {G : xw_G} {F L bc bs : Nat} {pr : Option Value → xw_A → Prop} {px : String → xw_A → Prop} {h : xw_A} {a0 : Nat} {a1 : Nat} {x2 : Int32} {x3 : Int32}  (k : xw G m_Standing_holds F L bc bs pr px 56 [some (.ref a0), some (.ref a1), some (.int x2), some (.int x3), none] [.int x3, .int x2, .ref a1, .ref a0] h) : xw G m_Standing_holds F L bc bs pr px 52 [some (.ref a0), some (.ref a1), some (.int x2), some (.int x3), none] [] h := by
  refine x_aload_n d_Standing_holds_52 rfl rfl ?_
  refine x_aload_n d_Standing_holds_53 rfl rfl ?_
  refine x_iload_n d_Standing_holds_54 rfl rfl ?_
  refine x_iload_n d_Standing_holds_55 rfl rfl ?_
  exact k
theorem s_Standing_holds_59 {G : xw_G} {F L bc bs : Nat} {pr : Option Value → xw_A → Prop} {px : String → xw_A → Prop} {h : xw_A} {y0 : Int32}  (kt : y0 = 0 → xw G m_Standing_holds F L bc bs pr px 66 [none, none, none, none, none] [] h) (kf : ¬ y0 = 0 → xw G m_Standing_holds F L bc bs pr px 62 [none, none, none, none, none] [] h) : xw G m_Standing_holds F L bc bs pr px 59 [none, none, none, none, none] [.int y0] h := by
  refine x_if_eq (tgt := 66) d_Standing_holds_59 (by decide) (fun hc => ?_) (fun hc => ?_)
  · exact kt hc
  · exact kf hc
theorem s_Standing_holds_62 {G : xw_G} {F L bc bs : Nat} {pr : Option Value → xw_A → Prop} {px : String → xw_A → Prop} {h : xw_A}   (k : xw G m_Standing_holds F L bc bs pr px 67 [none, none, none, none, none] [.int 1] h) : xw G m_Standing_holds F L bc bs pr px 62 [none, none, none, none, none] [] h := by
  refine x_iconst (v := 1) d_Standing_holds_62 (by decide) ?_
  refine x_goto (tgt := 67) d_Standing_holds_63 (by decide) ?_
  exact k
theorem s_Standing_holds_66 {G : xw_G} {F L bc bs : Nat} {pr : Option Value → xw_A → Prop} {px : String → xw_A → Prop} {h : xw_A}   (k : xw G m_Standing_holds F L bc bs pr px 67 [none, none, none, none, none] [.int 0] h) : xw G m_Standing_holds F L bc bs pr px 66 [none, none, none, none, none] [] h := by
  refine x_iconst (v := 0) d_Standing_holds_66 (by decide) ?_
  exact k
theorem s_Standing_holds_67 {G : xw_G} {F L bc bs : Nat} {pr : Option Value → xw_A → Prop} {px : String → xw_A → Prop} {h : xw_A} {y0 : Int32} (w_67 : narrow .boolean (.int y0) = .int y0) (kr : pr (some (.int y0)) h) : xw G m_Standing_holds F L bc bs pr px 67 [none, none, none, none, none] [.int y0] h := by
  exact x_zret d_Standing_holds_67 rfl w_67 kr
theorem s_Standing_placesOf_0 {G : xw_G} {F L bc bs : Nat} {pr : Option Value → xw_A → Prop} {px : String → xw_A → Prop} {h : xw_A} {a0 : Nat} {x1 : Int32} {x2 : Int32} {x3 : Int32} {places_a0 : Option Nat} {question_a0 : Option Nat} (e_a0 : h a0 = some (.inr (7, [va_rf places_a0, va_rf question_a0]))) (k : xw G m_Standing_placesOf F L bc bs pr px 7 [some (.ref a0), some (.int x1), some (.int x2), some (.int x3)] [.int x3, .int x2, .int x1, va_rf places_a0] h) : xw G m_Standing_placesOf F L bc bs pr px 0 [some (.ref a0), some (.int x1), some (.int x2), some (.int x3)] [] h := by
  refine x_aload_n d_Standing_placesOf_0 rfl rfl ?_
  refine x_get d_Standing_placesOf_1 f_Standing_9 e_a0 rfl ?_
  refine x_iload_n d_Standing_placesOf_4 rfl rfl ?_
  refine x_iload_n d_Standing_placesOf_5 rfl rfl ?_
  refine x_iload_n d_Standing_placesOf_6 rfl rfl ?_
  exact k
theorem s_Standing_placesOf_10 {G : xw_G} {F L bc bs : Nat} {pr : Option Value → xw_A → Prop} {px : String → xw_A → Prop} {h : xw_A} {y0 : Int32} {b1 : Nat} {n_b1 : Nat} {f_b1 : Nat → Int32} (e_b1 : h b1 = some (.inl (0, n_b1, .inl f_b1))) (i_10 : vp_in y0 n_b1) (kr : pr (some (.int (f_b1 y0.toNatClampNeg))) h) : xw G m_Standing_placesOf F L bc bs pr px 10 [none, none, none, none] [.int y0, .ref b1] h := by
  refine x_iald d_Standing_placesOf_10 e_b1 i_10 ?_
  exact x_iret d_Standing_placesOf_11 rfl kr
theorem s_Standing_areNear_0 {G : xw_G} {F L bc bs : Nat} {pr : Option Value → xw_A → Prop} {px : String → xw_A → Prop} {h : xw_A} {a0 : Nat} {a1 : Nat} {x2 : Int32} {x3 : Int32}  (k : xw G m_Standing_areNear F L bc bs pr px 3 [some (.ref a0), some (.ref a1), some (.int x2), some (.int x3), some (.int 1)] [] h) : xw G m_Standing_areNear F L bc bs pr px 0 [some (.ref a0), some (.ref a1), some (.int x2), some (.int x3), none] [] h := by
  refine x_iconst (v := 1) d_Standing_areNear_0 (by decide) ?_
  refine x_istore d_Standing_areNear_1 (by decide) rfl ?_
  show xw G m_Standing_areNear F L bc bs pr px 3 [some (.ref a0), some (.ref a1), some (.int x2), some (.int x3), some (.int 1)] [] h
  exact k
theorem s_Standing_areNear_3 {G : xw_G} {F L bc bs : Nat} {pr : Option Value → xw_A → Prop} {px : String → xw_A → Prop} {h : xw_A} {a0 : Nat} {a1 : Nat} {x2 : Int32} {x3 : Int32} {x4 : Int32}  (kt : 24 < x4 → xw G m_Standing_areNear F L bc bs pr px 30 [none, none, none, none, none] [] h) (kf : ¬ 24 < x4 → xw G m_Standing_areNear F L bc bs pr px 10 [some (.ref a0), some (.ref a1), some (.int x2), some (.int x3), some (.int x4)] [] h) : xw G m_Standing_areNear F L bc bs pr px 3 [some (.ref a0), some (.ref a1), some (.int x2), some (.int x3), some (.int x4)] [] h := by
  refine x_iload d_Standing_areNear_3 rfl ?_
  refine x_bipush (v := 24) d_Standing_areNear_5 (by decide) ?_
  refine x_icmp_gt (tgt := 30) d_Standing_areNear_7 (by decide) (fun hc => ?_) (fun hc => ?_)
  · exact x_le (lv' := [none, none, none, none, none]) (xw_le_n (xw_le_n (xw_le_n (xw_le_n (xw_le_n xw_le_e))))) (kt hc)
  · exact kf hc
theorem s_Standing_areNear_10 {G : xw_G} {F L bc bs : Nat} {pr : Option Value → xw_A → Prop} {px : String → xw_A → Prop} {h : xw_A} {a0 : Nat} {a1 : Nat} {x2 : Int32} {x3 : Int32} {x4 : Int32}  (k : xw G m_Standing_areNear F L bc bs pr px 16 [some (.ref a0), some (.ref a1), some (.int x2), some (.int x3), some (.int x4)] [.int x4, .int x3, .int x2, .ref a1, .ref a0] h) : xw G m_Standing_areNear F L bc bs pr px 10 [some (.ref a0), some (.ref a1), some (.int x2), some (.int x3), some (.int x4)] [] h := by
  refine x_aload_n d_Standing_areNear_10 rfl rfl ?_
  refine x_aload_n d_Standing_areNear_11 rfl rfl ?_
  refine x_iload_n d_Standing_areNear_12 rfl rfl ?_
  refine x_iload_n d_Standing_areNear_13 rfl rfl ?_
  refine x_iload d_Standing_areNear_14 rfl ?_
  exact k
theorem s_Standing_areNear_19 {G : xw_G} {F L bc bs : Nat} {pr : Option Value → xw_A → Prop} {px : String → xw_A → Prop} {h : xw_A} {a0 : Nat} {a1 : Nat} {x2 : Int32} {x3 : Int32} {x4 : Int32} {y0 : Int32}  (kt : y0 = 0 → xw G m_Standing_areNear F L bc bs pr px 24 [some (.ref a0), some (.ref a1), some (.int x2), some (.int x3), some (.int x4)] [] h) (kf : ¬ y0 = 0 → xw G m_Standing_areNear F L bc bs pr px 22 [none, none, none, none, none] [] h) : xw G m_Standing_areNear F L bc bs pr px 19 [some (.ref a0), some (.ref a1), some (.int x2), some (.int x3), some (.int x4)] [.int y0] h := by
  refine x_if_eq (tgt := 24) d_Standing_areNear_19 (by decide) (fun hc => ?_) (fun hc => ?_)
  · exact kt hc
  · exact x_le (lv' := [none, none, none, none, none]) (xw_le_n (xw_le_n (xw_le_n (xw_le_n (xw_le_n xw_le_e))))) (kf hc)
theorem s_Standing_areNear_22 {G : xw_G} {F L bc bs : Nat} {pr : Option Value → xw_A → Prop} {px : String → xw_A → Prop} {h : xw_A}   (kr : pr (some (.int 1)) h) : xw G m_Standing_areNear F L bc bs pr px 22 [none, none, none, none, none] [] h := by
  refine x_iconst (v := 1) d_Standing_areNear_22 (by decide) ?_
  exact x_zret d_Standing_areNear_23 rfl rfl kr
theorem s_Standing_areNear_24 {G : xw_G} {F L bc bs : Nat} {pr : Option Value → xw_A → Prop} {px : String → xw_A → Prop} {h : xw_A} {a0 : Nat} {a1 : Nat} {x2 : Int32} {x3 : Int32} {x4 : Int32}  (k : xw G m_Standing_areNear F L bc bs pr px 3 [some (.ref a0), some (.ref a1), some (.int x2), some (.int x3), some (.int (x4 + 1))] [] h) : xw G m_Standing_areNear F L bc bs pr px 24 [some (.ref a0), some (.ref a1), some (.int x2), some (.int x3), some (.int x4)] [] h := by
  refine x_iinc (v := x4 + 1) d_Standing_areNear_24 rfl (by rfl) (by decide) rfl ?_
  show xw G m_Standing_areNear F L bc bs pr px 27 [some (.ref a0), some (.ref a1), some (.int x2), some (.int x3), some (.int (x4 + 1))] [] h
  refine x_goto (tgt := 3) d_Standing_areNear_27 (by decide) ?_
  exact k
theorem s_Standing_areNear_30 {G : xw_G} {F L bc bs : Nat} {pr : Option Value → xw_A → Prop} {px : String → xw_A → Prop} {h : xw_A}   (kr : pr (some (.int 0)) h) : xw G m_Standing_areNear F L bc bs pr px 30 [none, none, none, none, none] [] h := by
  refine x_iconst (v := 0) d_Standing_areNear_30 (by decide) ?_
  exact x_zret d_Standing_areNear_31 rfl rfl kr
theorem s_Standing_allReach_0 {G : xw_G} {F L bc bs : Nat} {pr : Option Value → xw_A → Prop} {px : String → xw_A → Prop} {h : xw_A} {a0 : Nat} {a1 : Nat} {x2 : Int32} {x3 : Int32} {x4 : Int32} {kind_a1 : Int32} {left_a1 : Option Nat} {right_a1 : Option Nat} {firstPhrase_a1 : Int32} {phraseEnd_a1 : Int32} {reach_a1 : Int32} {columns_a1 : Int32} {places_a1 : Int32} {rows_a1 : Int32} (e_a1 : h a1 = some (.inr (2, [.int kind_a1, va_rf left_a1, va_rf right_a1, .int firstPhrase_a1, .int phraseEnd_a1, .int reach_a1, .int columns_a1, .int places_a1, .int rows_a1]))) (k : xw G m_Standing_allReach F L bc bs pr px 6 [some (.ref a0), some (.ref a1), some (.int x2), some (.int x3), some (.int x4), some (.int firstPhrase_a1), none, none, none] [] h) : xw G m_Standing_allReach F L bc bs pr px 0 [some (.ref a0), some (.ref a1), some (.int x2), some (.int x3), some (.int x4), none, none, none, none] [] h := by
  refine x_aload_n d_Standing_allReach_0 rfl rfl ?_
  refine x_get d_Standing_allReach_1 f_Standing_123 e_a1 rfl ?_
  refine x_istore d_Standing_allReach_4 (by decide) rfl ?_
  show xw G m_Standing_allReach F L bc bs pr px 6 [some (.ref a0), some (.ref a1), some (.int x2), some (.int x3), some (.int x4), some (.int firstPhrase_a1), none, none, none] [] h
  exact k
theorem s_Standing_allReach_6 {G : xw_G} {F L bc bs : Nat} {pr : Option Value → xw_A → Prop} {px : String → xw_A → Prop} {h : xw_A} {a0 : Nat} {a1 : Nat} {x2 : Int32} {x3 : Int32} {x4 : Int32} {x5 : Int32} {kind_a1 : Int32} {left_a1 : Option Nat} {right_a1 : Option Nat} {firstPhrase_a1 : Int32} {phraseEnd_a1 : Int32} {reach_a1 : Int32} {columns_a1 : Int32} {places_a1 : Int32} {rows_a1 : Int32} (e_a1 : h a1 = some (.inr (2, [.int kind_a1, va_rf left_a1, va_rf right_a1, .int firstPhrase_a1, .int phraseEnd_a1, .int reach_a1, .int columns_a1, .int places_a1, .int rows_a1]))) (kt : phraseEnd_a1 ≤ x5 → xw G m_Standing_allReach F L bc bs pr px 86 [none, none, none, none, none, none, none, none, none] [] h) (kf : ¬ phraseEnd_a1 ≤ x5 → xw G m_Standing_allReach F L bc bs pr px 15 [some (.ref a0), some (.ref a1), some (.int x2), some (.int x3), some (.int x4), some (.int x5), none, none, none] [] h) : xw G m_Standing_allReach F L bc bs pr px 6 [some (.ref a0), some (.ref a1), some (.int x2), some (.int x3), some (.int x4), some (.int x5), none, none, none] [] h := by
  refine x_iload d_Standing_allReach_6 rfl ?_
  refine x_aload_n d_Standing_allReach_8 rfl rfl ?_
  refine x_get d_Standing_allReach_9 f_Standing_126 e_a1 rfl ?_
  refine x_icmp_ge (tgt := 86) d_Standing_allReach_12 (by decide) (fun hc => ?_) (fun hc => ?_)
  · exact x_le (lv' := [none, none, none, none, none, none, none, none, none]) (xw_le_n (xw_le_n (xw_le_n (xw_le_n (xw_le_n (xw_le_n (xw_le_n (xw_le_n (xw_le_n xw_le_e))))))))) (kt hc)
  · exact kf hc
theorem s_Standing_allReach_15 {G : xw_G} {F L bc bs : Nat} {pr : Option Value → xw_A → Prop} {px : String → xw_A → Prop} {h : xw_A} {a0 : Nat} {a1 : Nat} {x2 : Int32} {x3 : Int32} {x4 : Int32} {x5 : Int32} {places_a0 : Option Nat} {question_a0 : Nat} {tokens_question_a0 : Option Nat} {phrases_question_a0 : Nat} {nodes_question_a0 : Option Nat} {phraseCount_question_a0 : Int32} {nodeCount_question_a0 : Int32} {wrongPlace_question_a0 : Int32} {parts_question_a0 : Option Nat} {letters_question_a0 : Option Nat} {at_question_a0 : Int32} {n_phrases_question_a0 : Nat} {f_phrases_question_a0 : Nat → Option Nat} {g27 : Nat} {first_g27 : Int32} {size_g27 : Int32} {beginning_g27 : Int32} (e_a0 : h a0 = some (.inr (7, [va_rf places_a0, .ref question_a0]))) (e_question_a0 : h question_a0 = some (.inr (5, [va_rf tokens_question_a0, .ref phrases_question_a0, va_rf nodes_question_a0, .int phraseCount_question_a0, .int nodeCount_question_a0, .int wrongPlace_question_a0, va_rf parts_question_a0, va_rf letters_question_a0, .int at_question_a0]))) (e_phrases_question_a0 : h phrases_question_a0 = some (.inl (4 + 6, n_phrases_question_a0, .inr (.inr (.inr (.inr f_phrases_question_a0)))))) (i_27 : vp_in x5 n_phrases_question_a0) (g_27 : f_phrases_question_a0 x5.toNatClampNeg = some g27) (e_g27 : h g27 = some (.inr (4, [.int first_g27, .int size_g27, .int beginning_g27]))) (k : xw G m_Standing_allReach F L bc bs pr px 32 [some (.ref a0), some (.ref a1), some (.int x2), some (.int x3), some (.int x4), some (.int x5), none, none, none] [.int (x4 - size_g27), .int 0] h) : xw G m_Standing_allReach F L bc bs pr px 15 [some (.ref a0), some (.ref a1), some (.int x2), some (.int x3), some (.int x4), some (.int x5), none, none, none] [] h := by
  refine x_iconst (v := 0) d_Standing_allReach_15 (by decide) ?_
  refine x_iload d_Standing_allReach_16 rfl ?_
  refine x_aload_n d_Standing_allReach_18 rfl rfl ?_
  refine x_get d_Standing_allReach_19 f_Standing_15 e_a0 rfl ?_
  refine x_get d_Standing_allReach_22 f_Standing_31 e_question_a0 rfl ?_
  refine x_iload d_Standing_allReach_25 rfl ?_
  refine x_aald (v := .ref g27) d_Standing_allReach_27 e_phrases_question_a0 i_27 (by rw [g_27]; rfl) ?_
  refine x_get d_Standing_allReach_28 f_Standing_49 e_g27 rfl ?_
  refine x_isub d_Standing_allReach_31 ?_
  exact k
theorem s_Standing_allReach_35 {G : xw_G} {F L bc bs : Nat} {pr : Option Value → xw_A → Prop} {px : String → xw_A → Prop} {h : xw_A} {a0 : Nat} {a1 : Nat} {x2 : Int32} {x3 : Int32} {x4 : Int32} {x5 : Int32} {y0 : Int32} {kind_a1 : Int32} {left_a1 : Option Nat} {right_a1 : Option Nat} {firstPhrase_a1 : Int32} {phraseEnd_a1 : Int32} {reach_a1 : Int32} {columns_a1 : Int32} {places_a1 : Int32} {rows_a1 : Int32} (e_a1 : h a1 = some (.inr (2, [.int kind_a1, va_rf left_a1, va_rf right_a1, .int firstPhrase_a1, .int phraseEnd_a1, .int reach_a1, .int columns_a1, .int places_a1, .int rows_a1]))) (k : xw G m_Standing_allReach F L bc bs pr px 46 [some (.ref a0), some (.ref a1), some (.int x2), some (.int x3), some (.int x4), some (.int x5), some (.int y0), none, none] [.int (x4 + reach_a1), .int 24] h) : xw G m_Standing_allReach F L bc bs pr px 35 [some (.ref a0), some (.ref a1), some (.int x2), some (.int x3), some (.int x4), some (.int x5), none, none, none] [.int y0] h := by
  refine x_istore d_Standing_allReach_35 (by decide) rfl ?_
  show xw G m_Standing_allReach F L bc bs pr px 37 [some (.ref a0), some (.ref a1), some (.int x2), some (.int x3), some (.int x4), some (.int x5), some (.int y0), none, none] [] h
  refine x_bipush (v := 24) d_Standing_allReach_37 (by decide) ?_
  refine x_iload d_Standing_allReach_39 rfl ?_
  refine x_aload_n d_Standing_allReach_41 rfl rfl ?_
  refine x_get d_Standing_allReach_42 f_Standing_144 e_a1 rfl ?_
  refine x_iadd d_Standing_allReach_45 ?_
  exact k
theorem s_Standing_allReach_49 {G : xw_G} {F L bc bs : Nat} {pr : Option Value → xw_A → Prop} {px : String → xw_A → Prop} {h : xw_A} {a0 : Nat} {a1 : Nat} {x2 : Int32} {x3 : Int32} {x4 : Int32} {x5 : Int32} {x6 : Int32} {y0 : Int32}  (k : xw G m_Standing_allReach F L bc bs pr px 69 [some (.ref a0), some (.ref a1), some (.int x2), some (.int x3), some (.int x4), some (.int x5), some (.int x6), some (.int y0), some (.int ((1 <<< ((y0 + 1) &&& 31)) - (1 <<< (x6 &&& 31))))] [.int x3, .int x2, .int x5, .ref a0] h) : xw G m_Standing_allReach F L bc bs pr px 49 [some (.ref a0), some (.ref a1), some (.int x2), some (.int x3), some (.int x4), some (.int x5), some (.int x6), none, none] [.int y0] h := by
  refine x_istore d_Standing_allReach_49 (by decide) rfl ?_
  show xw G m_Standing_allReach F L bc bs pr px 51 [some (.ref a0), some (.ref a1), some (.int x2), some (.int x3), some (.int x4), some (.int x5), some (.int x6), some (.int y0), none] [] h
  refine x_iconst (v := 1) d_Standing_allReach_51 (by decide) ?_
  refine x_iload d_Standing_allReach_52 rfl ?_
  refine x_iconst (v := 1) d_Standing_allReach_54 (by decide) ?_
  refine x_iadd d_Standing_allReach_55 ?_
  refine x_ishl d_Standing_allReach_56 ?_
  refine x_iconst (v := 1) d_Standing_allReach_57 (by decide) ?_
  refine x_iload d_Standing_allReach_58 rfl ?_
  refine x_ishl d_Standing_allReach_60 ?_
  refine x_isub d_Standing_allReach_61 ?_
  refine x_istore d_Standing_allReach_62 (by decide) rfl ?_
  show xw G m_Standing_allReach F L bc bs pr px 64 [some (.ref a0), some (.ref a1), some (.int x2), some (.int x3), some (.int x4), some (.int x5), some (.int x6), some (.int y0), some (.int ((1 <<< ((y0 + 1) &&& 31)) - (1 <<< (x6 &&& 31))))] [] h
  refine x_aload_n d_Standing_allReach_64 rfl rfl ?_
  refine x_iload d_Standing_allReach_65 rfl ?_
  refine x_iload_n d_Standing_allReach_67 rfl rfl ?_
  refine x_iload_n d_Standing_allReach_68 rfl rfl ?_
  exact k
theorem s_Standing_allReach_72 {G : xw_G} {F L bc bs : Nat} {pr : Option Value → xw_A → Prop} {px : String → xw_A → Prop} {h : xw_A} {a0 : Nat} {a1 : Nat} {x2 : Int32} {x3 : Int32} {x4 : Int32} {x5 : Int32} {x8 : Int32} {y0 : Int32}  (kt : ¬ (y0 &&& x8) = 0 → xw G m_Standing_allReach F L bc bs pr px 80 [some (.ref a0), some (.ref a1), some (.int x2), some (.int x3), some (.int x4), some (.int x5), none, none, none] [] h) (kf : (y0 &&& x8) = 0 → xw G m_Standing_allReach F L bc bs pr px 78 [none, none, none, none, none, none, none, none, none] [] h) : xw G m_Standing_allReach F L bc bs pr px 72 [some (.ref a0), some (.ref a1), some (.int x2), some (.int x3), some (.int x4), some (.int x5), none, none, some (.int x8)] [.int y0] h := by
  refine x_iload d_Standing_allReach_72 rfl ?_
  refine x_iand d_Standing_allReach_74 ?_
  refine x_if_ne (tgt := 80) d_Standing_allReach_75 (by decide) (fun hc => ?_) (fun hc => ?_)
  · exact x_le (lv' := [some (.ref a0), some (.ref a1), some (.int x2), some (.int x3), some (.int x4), some (.int x5), none, none, none]) (xw_le_s (xw_le_s (xw_le_s (xw_le_s (xw_le_s (xw_le_s (xw_le_n (xw_le_n (xw_le_n xw_le_e))))))))) (kt hc)
  · exact x_le (lv' := [none, none, none, none, none, none, none, none, none]) (xw_le_n (xw_le_n (xw_le_n (xw_le_n (xw_le_n (xw_le_n (xw_le_n (xw_le_n (xw_le_n xw_le_e))))))))) (kf hc)
theorem s_Standing_allReach_78 {G : xw_G} {F L bc bs : Nat} {pr : Option Value → xw_A → Prop} {px : String → xw_A → Prop} {h : xw_A}   (kr : pr (some (.int 0)) h) : xw G m_Standing_allReach F L bc bs pr px 78 [none, none, none, none, none, none, none, none, none] [] h := by
  refine x_iconst (v := 0) d_Standing_allReach_78 (by decide) ?_
  exact x_zret d_Standing_allReach_79 rfl rfl kr
theorem s_Standing_allReach_80 {G : xw_G} {F L bc bs : Nat} {pr : Option Value → xw_A → Prop} {px : String → xw_A → Prop} {h : xw_A} {a0 : Nat} {a1 : Nat} {x2 : Int32} {x3 : Int32} {x4 : Int32} {x5 : Int32}  (k : xw G m_Standing_allReach F L bc bs pr px 6 [some (.ref a0), some (.ref a1), some (.int x2), some (.int x3), some (.int x4), some (.int (x5 + 1)), none, none, none] [] h) : xw G m_Standing_allReach F L bc bs pr px 80 [some (.ref a0), some (.ref a1), some (.int x2), some (.int x3), some (.int x4), some (.int x5), none, none, none] [] h := by
  refine x_iinc (v := x5 + 1) d_Standing_allReach_80 rfl (by rfl) (by decide) rfl ?_
  show xw G m_Standing_allReach F L bc bs pr px 83 [some (.ref a0), some (.ref a1), some (.int x2), some (.int x3), some (.int x4), some (.int (x5 + 1)), none, none, none] [] h
  refine x_goto (tgt := 6) d_Standing_allReach_83 (by decide) ?_
  exact k
theorem s_Standing_allReach_86 {G : xw_G} {F L bc bs : Nat} {pr : Option Value → xw_A → Prop} {px : String → xw_A → Prop} {h : xw_A}   (kr : pr (some (.int 1)) h) : xw G m_Standing_allReach F L bc bs pr px 86 [none, none, none, none, none, none, none, none, none] [] h := by
  refine x_iconst (v := 1) d_Standing_allReach_86 (by decide) ?_
  exact x_zret d_Standing_allReach_87 rfl rfl kr
theorem s_Standing_rowsOfJoin_0 {G : xw_G} {F L bc bs : Nat} {pr : Option Value → xw_A → Prop} {px : String → xw_A → Prop} {h : xw_A} {a0 : Nat} {kind_a0 : Int32} {left_a0 : Option Nat} {right_a0 : Option Nat} {firstPhrase_a0 : Int32} {phraseEnd_a0 : Int32} {reach_a0 : Int32} {columns_a0 : Int32} {places_a0 : Int32} {rows_a0 : Int32} (e_a0 : h a0 = some (.inr (2, [.int kind_a0, va_rf left_a0, va_rf right_a0, .int firstPhrase_a0, .int phraseEnd_a0, .int reach_a0, .int columns_a0, .int places_a0, .int rows_a0]))) (kt : ¬ kind_a0 = 5 → xw G m_Standing_rowsOfJoin F L bc bs pr px 24 [some (.ref a0)] [] h) (kf : kind_a0 = 5 → xw G m_Standing_rowsOfJoin F L bc bs pr px 8 [some (.ref a0)] [] h) : xw G m_Standing_rowsOfJoin F L bc bs pr px 0 [some (.ref a0)] [] h := by
  refine x_aload_n d_Standing_rowsOfJoin_0 rfl rfl ?_
  refine x_get d_Standing_rowsOfJoin_1 f_Standing_92 e_a0 rfl ?_
  refine x_iconst (v := 5) d_Standing_rowsOfJoin_4 (by decide) ?_
  refine x_icmp_ne (tgt := 24) d_Standing_rowsOfJoin_5 (by decide) (fun hc => ?_) (fun hc => ?_)
  · exact kt hc
  · exact kf hc
theorem s_Standing_rowsOfJoin_8 {G : xw_G} {F L bc bs : Nat} {pr : Option Value → xw_A → Prop} {px : String → xw_A → Prop} {h : xw_A} {a0 : Nat} {kind_a0 : Int32} {left_a0 : Nat} {right_a0 : Nat} {firstPhrase_a0 : Int32} {phraseEnd_a0 : Int32} {reach_a0 : Int32} {columns_a0 : Int32} {places_a0 : Int32} {rows_a0 : Int32} {kind_left_a0 : Int32} {left_left_a0 : Option Nat} {right_left_a0 : Option Nat} {firstPhrase_left_a0 : Int32} {phraseEnd_left_a0 : Int32} {reach_left_a0 : Int32} {columns_left_a0 : Int32} {places_left_a0 : Int32} {rows_left_a0 : Int32} {kind_right_a0 : Int32} {left_right_a0 : Option Nat} {right_right_a0 : Option Nat} {firstPhrase_right_a0 : Int32} {phraseEnd_right_a0 : Int32} {reach_right_a0 : Int32} {columns_right_a0 : Int32} {places_right_a0 : Int32} {rows_right_a0 : Int32} (e_a0 : h a0 = some (.inr (2, [.int kind_a0, .ref left_a0, .ref right_a0, .int firstPhrase_a0, .int phraseEnd_a0, .int reach_a0, .int columns_a0, .int places_a0, .int rows_a0]))) (e_left_a0 : h left_a0 = some (.inr (2, [.int kind_left_a0, va_rf left_left_a0, va_rf right_left_a0, .int firstPhrase_left_a0, .int phraseEnd_left_a0, .int reach_left_a0, .int columns_left_a0, .int places_left_a0, .int rows_left_a0]))) (e_right_a0 : h right_a0 = some (.inr (2, [.int kind_right_a0, va_rf left_right_a0, va_rf right_right_a0, .int firstPhrase_right_a0, .int phraseEnd_right_a0, .int reach_right_a0, .int columns_right_a0, .int places_right_a0, .int rows_right_a0]))) (kr : pr (some (.int (rows_left_a0 ||| rows_right_a0))) h) : xw G m_Standing_rowsOfJoin F L bc bs pr px 8 [some (.ref a0)] [] h := by
  refine x_aload_n d_Standing_rowsOfJoin_8 rfl rfl ?_
  refine x_get d_Standing_rowsOfJoin_9 f_Standing_109 e_a0 rfl ?_
  refine x_get d_Standing_rowsOfJoin_12 f_Standing_104 e_left_a0 rfl ?_
  refine x_aload_n d_Standing_rowsOfJoin_15 rfl rfl ?_
  refine x_get d_Standing_rowsOfJoin_16 f_Standing_113 e_a0 rfl ?_
  refine x_get d_Standing_rowsOfJoin_19 f_Standing_104 e_right_a0 rfl ?_
  refine x_ior d_Standing_rowsOfJoin_22 ?_
  exact x_iret d_Standing_rowsOfJoin_23 rfl kr
theorem s_Standing_rowsOfJoin_24 {G : xw_G} {F L bc bs : Nat} {pr : Option Value → xw_A → Prop} {px : String → xw_A → Prop} {h : xw_A} {a0 : Nat} {kind_a0 : Int32} {left_a0 : Nat} {right_a0 : Option Nat} {firstPhrase_a0 : Int32} {phraseEnd_a0 : Int32} {reach_a0 : Int32} {columns_a0 : Int32} {places_a0 : Int32} {rows_a0 : Int32} {kind_left_a0 : Int32} {left_left_a0 : Option Nat} {right_left_a0 : Option Nat} {firstPhrase_left_a0 : Int32} {phraseEnd_left_a0 : Int32} {reach_left_a0 : Int32} {columns_left_a0 : Int32} {places_left_a0 : Int32} {rows_left_a0 : Int32} (e_a0 : h a0 = some (.inr (2, [.int kind_a0, .ref left_a0, va_rf right_a0, .int firstPhrase_a0, .int phraseEnd_a0, .int reach_a0, .int columns_a0, .int places_a0, .int rows_a0]))) (e_left_a0 : h left_a0 = some (.inr (2, [.int kind_left_a0, va_rf left_left_a0, va_rf right_left_a0, .int firstPhrase_left_a0, .int phraseEnd_left_a0, .int reach_left_a0, .int columns_left_a0, .int places_left_a0, .int rows_left_a0]))) (kt : ¬ kind_a0 = 6 → xw G m_Standing_rowsOfJoin F L bc bs pr px 50 [some (.ref a0)] [.int rows_left_a0] h) (kf : kind_a0 = 6 → xw G m_Standing_rowsOfJoin F L bc bs pr px 40 [some (.ref a0)] [.int rows_left_a0] h) : xw G m_Standing_rowsOfJoin F L bc bs pr px 24 [some (.ref a0)] [] h := by
  refine x_aload_n d_Standing_rowsOfJoin_24 rfl rfl ?_
  refine x_get d_Standing_rowsOfJoin_25 f_Standing_109 e_a0 rfl ?_
  refine x_get d_Standing_rowsOfJoin_28 f_Standing_104 e_left_a0 rfl ?_
  refine x_aload_n d_Standing_rowsOfJoin_31 rfl rfl ?_
  refine x_get d_Standing_rowsOfJoin_32 f_Standing_92 e_a0 rfl ?_
  refine x_bipush (v := 6) d_Standing_rowsOfJoin_35 (by decide) ?_
  refine x_icmp_ne (tgt := 50) d_Standing_rowsOfJoin_37 (by decide) (fun hc => ?_) (fun hc => ?_)
  · exact kt hc
  · exact kf hc
theorem s_Standing_rowsOfJoin_40 {G : xw_G} {F L bc bs : Nat} {pr : Option Value → xw_A → Prop} {px : String → xw_A → Prop} {h : xw_A} {a0 : Nat} {y0 : Int32} {kind_a0 : Int32} {left_a0 : Option Nat} {right_a0 : Nat} {firstPhrase_a0 : Int32} {phraseEnd_a0 : Int32} {reach_a0 : Int32} {columns_a0 : Int32} {places_a0 : Int32} {rows_a0 : Int32} {kind_right_a0 : Int32} {left_right_a0 : Option Nat} {right_right_a0 : Option Nat} {firstPhrase_right_a0 : Int32} {phraseEnd_right_a0 : Int32} {reach_right_a0 : Int32} {columns_right_a0 : Int32} {places_right_a0 : Int32} {rows_right_a0 : Int32} (e_a0 : h a0 = some (.inr (2, [.int kind_a0, va_rf left_a0, .ref right_a0, .int firstPhrase_a0, .int phraseEnd_a0, .int reach_a0, .int columns_a0, .int places_a0, .int rows_a0]))) (e_right_a0 : h right_a0 = some (.inr (2, [.int kind_right_a0, va_rf left_right_a0, va_rf right_right_a0, .int firstPhrase_right_a0, .int phraseEnd_right_a0, .int reach_right_a0, .int columns_right_a0, .int places_right_a0, .int rows_right_a0]))) (k : xw G m_Standing_rowsOfJoin F L bc bs pr px 59 [none] [.int rows_right_a0, .int y0] h) : xw G m_Standing_rowsOfJoin F L bc bs pr px 40 [some (.ref a0)] [.int y0] h := by
  refine x_aload_n d_Standing_rowsOfJoin_40 rfl rfl ?_
  refine x_get d_Standing_rowsOfJoin_41 f_Standing_113 e_a0 rfl ?_
  refine x_get d_Standing_rowsOfJoin_44 f_Standing_104 e_right_a0 rfl ?_
  refine x_goto (tgt := 59) d_Standing_rowsOfJoin_47 (by decide) ?_
  exact x_le (lv' := [none]) (xw_le_n xw_le_e) (k)
theorem s_Standing_rowsOfJoin_50 {G : xw_G} {F L bc bs : Nat} {pr : Option Value → xw_A → Prop} {px : String → xw_A → Prop} {h : xw_A} {a0 : Nat} {y0 : Int32} {kind_a0 : Int32} {left_a0 : Option Nat} {right_a0 : Nat} {firstPhrase_a0 : Int32} {phraseEnd_a0 : Int32} {reach_a0 : Int32} {columns_a0 : Int32} {places_a0 : Int32} {rows_a0 : Int32} {kind_right_a0 : Int32} {left_right_a0 : Option Nat} {right_right_a0 : Option Nat} {firstPhrase_right_a0 : Int32} {phraseEnd_right_a0 : Int32} {reach_right_a0 : Int32} {columns_right_a0 : Int32} {places_right_a0 : Int32} {rows_right_a0 : Int32} (e_a0 : h a0 = some (.inr (2, [.int kind_a0, va_rf left_a0, .ref right_a0, .int firstPhrase_a0, .int phraseEnd_a0, .int reach_a0, .int columns_a0, .int places_a0, .int rows_a0]))) (e_right_a0 : h right_a0 = some (.inr (2, [.int kind_right_a0, va_rf left_right_a0, va_rf right_right_a0, .int firstPhrase_right_a0, .int phraseEnd_right_a0, .int reach_right_a0, .int columns_right_a0, .int places_right_a0, .int rows_right_a0]))) (k : xw G m_Standing_rowsOfJoin F L bc bs pr px 59 [none] [.int (rows_right_a0 ^^^ ((-1))), .int y0] h) : xw G m_Standing_rowsOfJoin F L bc bs pr px 50 [some (.ref a0)] [.int y0] h := by
  refine x_aload_n d_Standing_rowsOfJoin_50 rfl rfl ?_
  refine x_get d_Standing_rowsOfJoin_51 f_Standing_113 e_a0 rfl ?_
  refine x_get d_Standing_rowsOfJoin_54 f_Standing_104 e_right_a0 rfl ?_
  refine x_iconst (v := -1) d_Standing_rowsOfJoin_57 (by decide) ?_
  refine x_ixor d_Standing_rowsOfJoin_58 ?_
  exact x_le (lv' := [none]) (xw_le_n xw_le_e) (k)
theorem s_Standing_rowsOfJoin_59 {G : xw_G} {F L bc bs : Nat} {pr : Option Value → xw_A → Prop} {px : String → xw_A → Prop} {h : xw_A} {y0 : Int32} {y1 : Int32}  (kr : pr (some (.int (y1 &&& y0))) h) : xw G m_Standing_rowsOfJoin F L bc bs pr px 59 [none] [.int y0, .int y1] h := by
  refine x_iand d_Standing_rowsOfJoin_59 ?_
  exact x_iret d_Standing_rowsOfJoin_60 rfl kr
theorem s_Standing_rowsWith_0 {G : xw_G} {F L bc bs : Nat} {pr : Option Value → xw_A → Prop} {px : String → xw_A → Prop} {h : xw_A} {a0 : Nat} {x1 : Int32}  (k : xw G m_Standing_rowsWith F L bc bs pr px 4 [some (.ref a0), some (.int x1), some (.int 0), some (.int 1)] [] h) : xw G m_Standing_rowsWith F L bc bs pr px 0 [some (.ref a0), some (.int x1), none, none] [] h := by
  refine x_iconst (v := 0) d_Standing_rowsWith_0 (by decide) ?_
  refine x_istore_n d_Standing_rowsWith_1 rfl (by decide) rfl ?_
  show xw G m_Standing_rowsWith F L bc bs pr px 2 [some (.ref a0), some (.int x1), some (.int 0), none] [] h
  refine x_iconst (v := 1) d_Standing_rowsWith_2 (by decide) ?_
  refine x_istore_n d_Standing_rowsWith_3 rfl (by decide) rfl ?_
  show xw G m_Standing_rowsWith F L bc bs pr px 4 [some (.ref a0), some (.int x1), some (.int 0), some (.int 1)] [] h
  exact k
theorem s_Standing_rowsWith_4 {G : xw_G} {F L bc bs : Nat} {pr : Option Value → xw_A → Prop} {px : String → xw_A → Prop} {h : xw_A} {a0 : Nat} {x1 : Int32} {x2 : Int32} {x3 : Int32}  (kt : 24 < x3 → xw G m_Standing_rowsWith F L bc bs pr px 28 [none, none, some (.int x2), none] [] h) (kf : ¬ 24 < x3 → xw G m_Standing_rowsWith F L bc bs pr px 10 [some (.ref a0), some (.int x1), some (.int x2), some (.int x3)] [] h) : xw G m_Standing_rowsWith F L bc bs pr px 4 [some (.ref a0), some (.int x1), some (.int x2), some (.int x3)] [] h := by
  refine x_iload_n d_Standing_rowsWith_4 rfl rfl ?_
  refine x_bipush (v := 24) d_Standing_rowsWith_5 (by decide) ?_
  refine x_icmp_gt (tgt := 28) d_Standing_rowsWith_7 (by decide) (fun hc => ?_) (fun hc => ?_)
  · exact x_le (lv' := [none, none, some (.int x2), none]) (xw_le_n (xw_le_n (xw_le_s (xw_le_n xw_le_e)))) (kt hc)
  · exact kf hc
theorem s_Standing_rowsWith_10 {G : xw_G} {F L bc bs : Nat} {pr : Option Value → xw_A → Prop} {px : String → xw_A → Prop} {h : xw_A} {a0 : Nat} {x1 : Int32} {x2 : Int32} {x3 : Int32}  (k : xw G m_Standing_rowsWith F L bc bs pr px 13 [some (.ref a0), some (.int x1), some (.int x2), some (.int x3)] [.int x3, .int x1, .ref a0] h) : xw G m_Standing_rowsWith F L bc bs pr px 10 [some (.ref a0), some (.int x1), some (.int x2), some (.int x3)] [] h := by
  refine x_aload_n d_Standing_rowsWith_10 rfl rfl ?_
  refine x_iload_n d_Standing_rowsWith_11 rfl rfl ?_
  refine x_iload_n d_Standing_rowsWith_12 rfl rfl ?_
  exact k
theorem s_Standing_rowsWith_16 {G : xw_G} {F L bc bs : Nat} {pr : Option Value → xw_A → Prop} {px : String → xw_A → Prop} {h : xw_A} {a0 : Nat} {x1 : Int32} {x2 : Int32} {x3 : Int32} {y0 : Int32}  (kt : y0 = 0 → xw G m_Standing_rowsWith F L bc bs pr px 22 [some (.ref a0), some (.int x1), some (.int x2), some (.int x3)] [] h) (kf : ¬ y0 = 0 → xw G m_Standing_rowsWith F L bc bs pr px 19 [some (.ref a0), some (.int x1), some (.int x2), some (.int x3)] [] h) : xw G m_Standing_rowsWith F L bc bs pr px 16 [some (.ref a0), some (.int x1), some (.int x2), some (.int x3)] [.int y0] h := by
  refine x_if_eq (tgt := 22) d_Standing_rowsWith_16 (by decide) (fun hc => ?_) (fun hc => ?_)
  · exact kt hc
  · exact kf hc
theorem s_Standing_rowsWith_19 {G : xw_G} {F L bc bs : Nat} {pr : Option Value → xw_A → Prop} {px : String → xw_A → Prop} {h : xw_A} {a0 : Nat} {x1 : Int32} {x2 : Int32} {x3 : Int32}  (k : xw G m_Standing_rowsWith F L bc bs pr px 22 [some (.ref a0), some (.int x1), some (.int (x2 + 1)), some (.int x3)] [] h) : xw G m_Standing_rowsWith F L bc bs pr px 19 [some (.ref a0), some (.int x1), some (.int x2), some (.int x3)] [] h := by
  refine x_iinc (v := x2 + 1) d_Standing_rowsWith_19 rfl (by rfl) (by decide) rfl ?_
  show xw G m_Standing_rowsWith F L bc bs pr px 22 [some (.ref a0), some (.int x1), some (.int (x2 + 1)), some (.int x3)] [] h
  exact k
theorem s_Standing_rowsWith_22 {G : xw_G} {F L bc bs : Nat} {pr : Option Value → xw_A → Prop} {px : String → xw_A → Prop} {h : xw_A} {a0 : Nat} {x1 : Int32} {x2 : Int32} {x3 : Int32}  (k : xw G m_Standing_rowsWith F L bc bs pr px 4 [some (.ref a0), some (.int x1), some (.int x2), some (.int (x3 + 1))] [] h) : xw G m_Standing_rowsWith F L bc bs pr px 22 [some (.ref a0), some (.int x1), some (.int x2), some (.int x3)] [] h := by
  refine x_iinc (v := x3 + 1) d_Standing_rowsWith_22 rfl (by rfl) (by decide) rfl ?_
  show xw G m_Standing_rowsWith F L bc bs pr px 25 [some (.ref a0), some (.int x1), some (.int x2), some (.int (x3 + 1))] [] h
  refine x_goto (tgt := 4) d_Standing_rowsWith_25 (by decide) ?_
  exact k
theorem s_Standing_rowsWith_28 {G : xw_G} {F L bc bs : Nat} {pr : Option Value → xw_A → Prop} {px : String → xw_A → Prop} {h : xw_A} {x2 : Int32}  (kr : pr (some (.int x2)) h) : xw G m_Standing_rowsWith F L bc bs pr px 28 [none, none, some (.int x2), none] [] h := by
  refine x_iload_n d_Standing_rowsWith_28 rfl rfl ?_
  exact x_iret d_Standing_rowsWith_29 rfl kr
theorem s_Standing_standsIn_0 {G : xw_G} {F L bc bs : Nat} {pr : Option Value → xw_A → Prop} {px : String → xw_A → Prop} {h : xw_A} {a0 : Nat} {x1 : Int32} {x2 : Int32}  (k : xw G m_Standing_standsIn F L bc bs pr px 4 [some (.ref a0), some (.int x1), some (.int x2)] [.int 0, .int x2, .int x1, .ref a0] h) : xw G m_Standing_standsIn F L bc bs pr px 0 [some (.ref a0), some (.int x1), some (.int x2)] [] h := by
  refine x_aload_n d_Standing_standsIn_0 rfl rfl ?_
  refine x_iload_n d_Standing_standsIn_1 rfl rfl ?_
  refine x_iload_n d_Standing_standsIn_2 rfl rfl ?_
  refine x_iconst (v := 0) d_Standing_standsIn_3 (by decide) ?_
  exact k
theorem s_Standing_standsIn_7 {G : xw_G} {F L bc bs : Nat} {pr : Option Value → xw_A → Prop} {px : String → xw_A → Prop} {h : xw_A} {a0 : Nat} {x1 : Int32} {x2 : Int32} {y0 : Int32}  (k : xw G m_Standing_standsIn F L bc bs pr px 11 [some (.ref a0), some (.int x1), some (.int x2)] [.int 1, .int x2, .int x1, .ref a0, .int y0] h) : xw G m_Standing_standsIn F L bc bs pr px 7 [some (.ref a0), some (.int x1), some (.int x2)] [.int y0] h := by
  refine x_aload_n d_Standing_standsIn_7 rfl rfl ?_
  refine x_iload_n d_Standing_standsIn_8 rfl rfl ?_
  refine x_iload_n d_Standing_standsIn_9 rfl rfl ?_
  refine x_iconst (v := 1) d_Standing_standsIn_10 (by decide) ?_
  exact k
theorem s_Standing_standsIn_14 {G : xw_G} {F L bc bs : Nat} {pr : Option Value → xw_A → Prop} {px : String → xw_A → Prop} {h : xw_A} {y0 : Int32} {y1 : Int32}  (kt : (y1 ||| y0) = 0 → xw G m_Standing_standsIn F L bc bs pr px 22 [none, none, none] [] h) (kf : ¬ (y1 ||| y0) = 0 → xw G m_Standing_standsIn F L bc bs pr px 18 [none, none, none] [] h) : xw G m_Standing_standsIn F L bc bs pr px 14 [none, none, none] [.int y0, .int y1] h := by
  refine x_ior d_Standing_standsIn_14 ?_
  refine x_if_eq (tgt := 22) d_Standing_standsIn_15 (by decide) (fun hc => ?_) (fun hc => ?_)
  · exact kt hc
  · exact kf hc
theorem s_Standing_standsIn_18 {G : xw_G} {F L bc bs : Nat} {pr : Option Value → xw_A → Prop} {px : String → xw_A → Prop} {h : xw_A}   (k : xw G m_Standing_standsIn F L bc bs pr px 23 [none, none, none] [.int 1] h) : xw G m_Standing_standsIn F L bc bs pr px 18 [none, none, none] [] h := by
  refine x_iconst (v := 1) d_Standing_standsIn_18 (by decide) ?_
  refine x_goto (tgt := 23) d_Standing_standsIn_19 (by decide) ?_
  exact k
theorem s_Standing_standsIn_22 {G : xw_G} {F L bc bs : Nat} {pr : Option Value → xw_A → Prop} {px : String → xw_A → Prop} {h : xw_A}   (k : xw G m_Standing_standsIn F L bc bs pr px 23 [none, none, none] [.int 0] h) : xw G m_Standing_standsIn F L bc bs pr px 22 [none, none, none] [] h := by
  refine x_iconst (v := 0) d_Standing_standsIn_22 (by decide) ?_
  exact k
theorem s_Standing_standsIn_23 {G : xw_G} {F L bc bs : Nat} {pr : Option Value → xw_A → Prop} {px : String → xw_A → Prop} {h : xw_A} {y0 : Int32} (w_23 : narrow .boolean (.int y0) = .int y0) (kr : pr (some (.int y0)) h) : xw G m_Standing_standsIn F L bc bs pr px 23 [none, none, none] [.int y0] h := by
  exact x_zret d_Standing_standsIn_23 rfl w_23 kr
