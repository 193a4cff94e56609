/-! blocks of Question: by program -/
theorem s_Question_init_0 {G : xw_G} {F L bc bs : Nat} {pr : Option Value → xw_A → Prop} {px : String → xw_A → Prop} {h : xw_A} {a0 : Nat} (r_1 : 1 ≤ F ∧ 0 + 12 ≤ L) (u_5 : 1 ≤ bc ∧ 3 ≤ bs) (k : ∀ q5 : Nat, h q5 = none → xw G m_Question_init F L (bc - 1) (bs - 3) pr px 11 [some (.ref a0), none] [.int 96, .ref q5, .ref q5, .ref a0] (xw_up h q5 (.inr (9, [.null, .null, .int 0])))) : xw G m_Question_init F L bc bs pr px 0 [some (.ref a0), none] [] h := by
  refine x_aload_n d_Question_init_0 rfl rfl ?_
  refine x_objInit d_Question_init_1 oi_Question r_1.1 (by simpa [Value.category] using r_1.2) ?_
  refine x_aload_n d_Question_init_4 rfl rfl ?_
  refine x_new (ci := 9) (fs := [.null, .null, .int 0]) d_Question_init_5 (by decide) nw_Question_11.1 nw_Question_11.2.1 nw_Question_11.2.2 df_Tokens u_5 (fun q5 hq5 => ?_)
  show xw G m_Question_init F L (bc - 1) (bs - 3) pr px 8 [some (.ref a0), none] [.ref q5, .ref a0] (xw_up h q5 (.inr (9, [.null, .null, .int 0])))
  refine x_dup d_Question_init_8 rfl ?_
  refine x_bipush (v := 96) d_Question_init_9 (by decide) ?_
  exact (k q5 hq5)
theorem s_Question_init_14 {G : xw_G} {F L bc bs : Nat} {pr : Option Value → xw_A → Prop} {px : String → xw_A → Prop} {h : xw_A} {a0 : Nat} {b0 : Nat} {tokens_a0 : Option Nat} {phrases_a0 : Option Nat} {nodes_a0 : Option Nat} {phraseCount_a0 : Int32} {nodeCount_a0 : Int32} {wrongPlace_a0 : Int32} {parts_a0 : Option Nat} {letters_a0 : Option Nat} {at_a0 : Int32} (e_a0 : h a0 = some (.inr (5, [va_rf tokens_a0, va_rf phrases_a0, va_rf nodes_a0, .int phraseCount_a0, .int nodeCount_a0, .int wrongPlace_a0, va_rf parts_a0, va_rf letters_a0, .int at_a0]))) (u_20 : 1 ≤ bc ∧ 12 ≤ bs) (u_29 : 1 ≤ (bc - 1) ∧ 24 ≤ (bs - 12)) (k : ∀ q20 : Nat, (xw_up h a0 (.inr (5, [.ref b0, va_rf phrases_a0, va_rf nodes_a0, .int phraseCount_a0, .int nodeCount_a0, .int wrongPlace_a0, va_rf parts_a0, va_rf letters_a0, .int at_a0]))) q20 = none → ∀ q29 : Nat, (xw_up (xw_up (xw_up h a0 (.inr (5, [.ref b0, va_rf phrases_a0, va_rf nodes_a0, .int phraseCount_a0, .int nodeCount_a0, .int wrongPlace_a0, va_rf parts_a0, va_rf letters_a0, .int at_a0]))) q20 (.inl (4 + 6, 12, .inr (.inr (.inr (.inr ((fun _ => none)))))))) a0 (.inr (5, [.ref b0, .ref q20, va_rf nodes_a0, .int phraseCount_a0, .int nodeCount_a0, .int wrongPlace_a0, va_rf parts_a0, va_rf letters_a0, .int at_a0]))) q29 = none → xw G m_Question_init F L ((bc - 1) - 1) ((bs - 12) - 24) pr px 35 [some (.ref a0), none] [] (xw_up (xw_up (xw_up (xw_up (xw_up h a0 (.inr (5, [.ref b0, va_rf phrases_a0, va_rf nodes_a0, .int phraseCount_a0, .int nodeCount_a0, .int wrongPlace_a0, va_rf parts_a0, va_rf letters_a0, .int at_a0]))) q20 (.inl (4 + 6, 12, .inr (.inr (.inr (.inr ((fun _ => none)))))))) a0 (.inr (5, [.ref b0, .ref q20, va_rf nodes_a0, .int phraseCount_a0, .int nodeCount_a0, .int wrongPlace_a0, va_rf parts_a0, va_rf letters_a0, .int at_a0]))) q29 (.inl (2 + 6, 24, .inr (.inr (.inr (.inr ((fun _ => none)))))))) a0 (.inr (5, [.ref b0, .ref q20, .ref q29, .int phraseCount_a0, .int nodeCount_a0, .int wrongPlace_a0, va_rf parts_a0, va_rf letters_a0, .int at_a0])))) : xw G m_Question_init F L bc bs pr px 14 [some (.ref a0), none] [.ref b0, .ref a0] h := by
  refine x_putF (ty := (.object "PhraseShelf$Tokens")) d_Question_init_14 f_Question_16 fw_Question_0.1 rfl rfl fw_Question_0.2 rfl rfl (Nat.le_of_ble_eq_true rfl) e_a0 ?_
  show xw G m_Question_init F L bc bs pr px 17 [some (.ref a0), none] [] (xw_up h a0 (.inr (5, [.ref b0, va_rf phrases_a0, va_rf nodes_a0, .int phraseCount_a0, .int nodeCount_a0, .int wrongPlace_a0, va_rf parts_a0, va_rf letters_a0, .int at_a0])))
  refine x_aload_n d_Question_init_17 rfl rfl ?_
  refine x_bipush (v := 12) d_Question_init_18 (by decide) ?_
  refine x_anew (ci := 4) (N := 12) d_Question_init_20 (by decide) an_Question_22 ao_Phrase (by decide) (by decide) (by decide) u_20 (fun q20 hq20 => ?_)
  show xw G m_Question_init F L (bc - 1) (bs - 12) pr px 23 [some (.ref a0), none] [.ref q20, .ref a0] (xw_up (xw_up h a0 (.inr (5, [.ref b0, va_rf phrases_a0, va_rf nodes_a0, .int phraseCount_a0, .int nodeCount_a0, .int wrongPlace_a0, va_rf parts_a0, va_rf letters_a0, .int at_a0]))) q20 (.inl (4 + 6, 12, .inr (.inr (.inr (.inr ((fun _ => none))))))))
  refine x_putF (ty := (.array (.object "PhraseShelf$Phrase"))) d_Question_init_23 f_Question_24 fw_Question_1.1 rfl rfl fw_Question_1.2 rfl rfl (Nat.le_of_ble_eq_true rfl) ((xw_up_n _ _ (xw_neN (xw_up_s _ _ _) hq20)).trans (xw_up_s _ _ _)) ?_
  show xw G m_Question_init F L (bc - 1) (bs - 12) pr px 26 [some (.ref a0), none] [] (xw_up (xw_up (xw_up h a0 (.inr (5, [.ref b0, va_rf phrases_a0, va_rf nodes_a0, .int phraseCount_a0, .int nodeCount_a0, .int wrongPlace_a0, va_rf parts_a0, va_rf letters_a0, .int at_a0]))) q20 (.inl (4 + 6, 12, .inr (.inr (.inr (.inr ((fun _ => none)))))))) a0 (.inr (5, [.ref b0, .ref q20, va_rf nodes_a0, .int phraseCount_a0, .int nodeCount_a0, .int wrongPlace_a0, va_rf parts_a0, va_rf letters_a0, .int at_a0])))
  refine x_aload_n d_Question_init_26 rfl rfl ?_
  refine x_bipush (v := 24) d_Question_init_27 (by decide) ?_
  refine x_anew (ci := 2) (N := 24) d_Question_init_29 (by decide) an_Question_28 ao_Node (by decide) (by decide) (by decide) u_29 (fun q29 hq29 => ?_)
  show xw G m_Question_init F L ((bc - 1) - 1) ((bs - 12) - 24) pr px 32 [some (.ref a0), none] [.ref q29, .ref a0] (xw_up (xw_up (xw_up (xw_up h a0 (.inr (5, [.ref b0, va_rf phrases_a0, va_rf nodes_a0, .int phraseCount_a0, .int nodeCount_a0, .int wrongPlace_a0, va_rf parts_a0, va_rf letters_a0, .int at_a0]))) q20 (.inl (4 + 6, 12, .inr (.inr (.inr (.inr ((fun _ => none)))))))) a0 (.inr (5, [.ref b0, .ref q20, va_rf nodes_a0, .int phraseCount_a0, .int nodeCount_a0, .int wrongPlace_a0, va_rf parts_a0, va_rf letters_a0, .int at_a0]))) q29 (.inl (2 + 6, 24, .inr (.inr (.inr (.inr ((fun _ => none))))))))
  refine x_putF (ty := (.array (.object "PhraseShelf$Node"))) d_Question_init_32 f_Question_30 fw_Question_2.1 rfl rfl fw_Question_2.2 rfl rfl (Nat.le_of_ble_eq_true rfl) ((xw_up_n _ _ (xw_neN (xw_up_s _ _ _) hq29)).trans (xw_up_s _ _ _)) ?_
  show xw G m_Question_init F L ((bc - 1) - 1) ((bs - 12) - 24) pr px 35 [some (.ref a0), none] [] (xw_up (xw_up (xw_up (xw_up (xw_up h a0 (.inr (5, [.ref b0, va_rf phrases_a0, va_rf nodes_a0, .int phraseCount_a0, .int nodeCount_a0, .int wrongPlace_a0, va_rf parts_a0, va_rf letters_a0, .int at_a0]))) q20 (.inl (4 + 6, 12, .inr (.inr (.inr (.inr ((fun _ => none)))))))) a0 (.inr (5, [.ref b0, .ref q20, va_rf nodes_a0, .int phraseCount_a0, .int nodeCount_a0, .int wrongPlace_a0, va_rf parts_a0, va_rf letters_a0, .int at_a0]))) q29 (.inl (2 + 6, 24, .inr (.inr (.inr (.inr ((fun _ => none)))))))) a0 (.inr (5, [.ref b0, .ref q20, .ref q29, .int phraseCount_a0, .int nodeCount_a0, .int wrongPlace_a0, va_rf parts_a0, va_rf letters_a0, .int at_a0])))
  exact (k q20 hq20 q29 hq29)
theorem s_Question_init_35 {G : xw_G} {F L bc bs : Nat} {pr : Option Value → xw_A → Prop} {px : String → xw_A → Prop} {h : xw_A} {a0 : Nat} (u_36 : 1 ≤ bc ∧ 5 ≤ bs) (k : ∀ q36 : Nat, h q36 = none → xw G m_Question_init F L (bc - 1) (bs - 5) pr px 40 [some (.ref a0), none] [.ref q36, .ref q36, .ref a0] (xw_up h q36 (.inr (3, [.null, .null, .null, .null, .int 0])))) : xw G m_Question_init F L bc bs pr px 35 [some (.ref a0), none] [] h := by
  refine x_aload_n d_Question_init_35 rfl rfl ?_
  refine x_new (ci := 3) (fs := [.null, .null, .null, .null, .int 0]) d_Question_init_36 (by decide) nw_Question_1.1 nw_Question_1.2.1 nw_Question_1.2.2 df_Parts u_36 (fun q36 hq36 => ?_)
  show xw G m_Question_init F L (bc - 1) (bs - 5) pr px 39 [some (.ref a0), none] [.ref q36, .ref a0] (xw_up h q36 (.inr (3, [.null, .null, .null, .null, .int 0])))
  refine x_dup d_Question_init_39 rfl ?_
  exact (k q36 hq36)
theorem s_Question_init_43 {G : xw_G} {F L bc bs : Nat} {pr : Option Value → xw_A → Prop} {px : String → xw_A → Prop} {h : xw_A} {a0 : Nat} {b0 : Nat} {tokens_a0 : Option Nat} {phrases_a0 : Option Nat} {nodes_a0 : Option Nat} {phraseCount_a0 : Int32} {nodeCount_a0 : Int32} {wrongPlace_a0 : Int32} {parts_a0 : Option Nat} {letters_a0 : Option Nat} {at_a0 : Int32} (e_a0 : h a0 = some (.inr (5, [va_rf tokens_a0, va_rf phrases_a0, va_rf nodes_a0, .int phraseCount_a0, .int nodeCount_a0, .int wrongPlace_a0, va_rf parts_a0, va_rf letters_a0, .int at_a0]))) (k : xw G m_Question_init F L bc bs pr px 48 [some (.ref a0), some (.int 0)] [] (xw_up h a0 (.inr (5, [va_rf tokens_a0, va_rf phrases_a0, va_rf nodes_a0, .int phraseCount_a0, .int nodeCount_a0, .int wrongPlace_a0, .ref b0, va_rf letters_a0, .int at_a0])))) : xw G m_Question_init F L bc bs pr px 43 [some (.ref a0), none] [.ref b0, .ref a0] h := by
  refine x_putF (ty := (.object "PhraseShelf$Parts")) d_Question_init_43 f_Question_35 fw_Question_6.1 rfl rfl fw_Question_6.2 rfl rfl (Nat.le_of_ble_eq_true rfl) e_a0 ?_
  show xw G m_Question_init F L bc bs pr px 46 [some (.ref a0), none] [] (xw_up h a0 (.inr (5, [va_rf tokens_a0, va_rf phrases_a0, va_rf nodes_a0, .int phraseCount_a0, .int nodeCount_a0, .int wrongPlace_a0, .ref b0, va_rf letters_a0, .int at_a0])))
  refine x_iconst (v := 0) d_Question_init_46 (by decide) ?_
  refine x_istore_n d_Question_init_47 rfl (by decide) rfl ?_
  show xw G m_Question_init F L bc bs pr px 48 [some (.ref a0), some (.int 0)] [] (xw_up h a0 (.inr (5, [va_rf tokens_a0, va_rf phrases_a0, va_rf nodes_a0, .int phraseCount_a0, .int nodeCount_a0, .int wrongPlace_a0, .ref b0, va_rf letters_a0, .int at_a0])))
  exact k
theorem s_Question_init_48 {G : xw_G} {F L bc bs : Nat} {pr : Option Value → xw_A → Prop} {px : String → xw_A → Prop} {h : xw_A} {a0 : Nat} {x1 : Int32}  (kt : 12 ≤ x1 → xw G m_Question_init F L bc bs pr px 73 [some (.ref a0), none] [] h) (kf : ¬ 12 ≤ x1 → xw G m_Question_init F L bc bs pr px 54 [some (.ref a0), some (.int x1)] [] h) : xw G m_Question_init F L bc bs pr px 48 [some (.ref a0), some (.int x1)] [] h := by
  refine x_iload_n d_Question_init_48 rfl rfl ?_
  refine x_bipush (v := 12) d_Question_init_49 (by decide) ?_
  refine x_icmp_ge (tgt := 73) d_Question_init_51 (by decide) (fun hc => ?_) (fun hc => ?_)
  · exact x_le (lv' := [some (.ref a0), none]) (xw_le_s (xw_le_n xw_le_e)) (kt hc)
  · exact kf hc
theorem s_Question_init_54 {G : xw_G} {F L bc bs : Nat} {pr : Option Value → xw_A → Prop} {px : String → xw_A → Prop} {h : xw_A} {a0 : Nat} {x1 : Int32} {tokens_a0 : Option Nat} {phrases_a0 : Option Nat} {nodes_a0 : Option Nat} {phraseCount_a0 : Int32} {nodeCount_a0 : Int32} {wrongPlace_a0 : Int32} {parts_a0 : Option Nat} {letters_a0 : Option Nat} {at_a0 : Int32} (e_a0 : h a0 = some (.inr (5, [va_rf tokens_a0, va_rf phrases_a0, va_rf nodes_a0, .int phraseCount_a0, .int nodeCount_a0, .int wrongPlace_a0, va_rf parts_a0, va_rf letters_a0, .int at_a0]))) (u_59 : 1 ≤ bc ∧ 3 ≤ bs) (k : ∀ q59 : Nat, h q59 = none → xw G m_Question_init F L (bc - 1) (bs - 3) pr px 63 [some (.ref a0), some (.int x1)] [.ref q59, .ref q59, .int x1, va_rf phrases_a0] (xw_up h q59 (.inr (4, [.int 0, .int 0, .int 0])))) : xw G m_Question_init F L bc bs pr px 54 [some (.ref a0), some (.int x1)] [] h := by
  refine x_aload_n d_Question_init_54 rfl rfl ?_
  refine x_get d_Question_init_55 f_Question_24 e_a0 rfl ?_
  refine x_iload_n d_Question_init_58 rfl rfl ?_
  refine x_new (ci := 4) (fs := [.int 0, .int 0, .int 0]) d_Question_init_59 (by decide) nw_Question_22.1 nw_Question_22.2.1 nw_Question_22.2.2 df_Phrase u_59 (fun q59 hq59 => ?_)
  show xw G m_Question_init F L (bc - 1) (bs - 3) pr px 62 [some (.ref a0), some (.int x1)] [.ref q59, .int x1, va_rf phrases_a0] (xw_up h q59 (.inr (4, [.int 0, .int 0, .int 0])))
  refine x_dup d_Question_init_62 rfl ?_
  exact (k q59 hq59)
theorem s_Question_init_66 {G : xw_G} {F L bc bs : Nat} {pr : Option Value → xw_A → Prop} {px : String → xw_A → Prop} {h : xw_A} {a0 : Nat} {x1 : Int32} {b0 : Nat} {b2 : Nat} {n_b2 : Nat} {f_b2 : Nat → Option Nat} {first_b0 : Int32} {size_b0 : Int32} {beginning_b0 : Int32} (e_b2 : h b2 = some (.inl (4 + 6, n_b2, .inr (.inr (.inr (.inr f_b2)))))) (i_66 : vp_in x1 n_b2) (e_b0 : h b0 = some (.inr (4, [.int first_b0, .int size_b0, .int beginning_b0]))) (k : xw G m_Question_init F L bc bs pr px 48 [some (.ref a0), some (.int (x1 + 1))] [] (xw_up h b2 (.inl (4 + 6, n_b2, .inr (.inr (.inr (.inr (va_up f_b2 x1.toNatClampNeg (some b0))))))))) : xw G m_Question_init F L bc bs pr px 66 [some (.ref a0), some (.int x1)] [.ref b0, .int x1, .ref b2] h := by
  refine x_aast d_Question_init_66 (by decide) e_b2 e_b0 i_66 ?_
  refine x_iinc (v := x1 + 1) d_Question_init_67 rfl (by rfl) (by decide) rfl ?_
  show xw G m_Question_init F L bc bs pr px 70 [some (.ref a0), some (.int (x1 + 1))] [] (xw_up h b2 (.inl (4 + 6, n_b2, .inr (.inr (.inr (.inr (va_up f_b2 x1.toNatClampNeg (some b0))))))))
  refine x_goto (tgt := 48) d_Question_init_70 (by decide) ?_
  exact k
theorem s_Question_init_73 {G : xw_G} {F L bc bs : Nat} {pr : Option Value → xw_A → Prop} {px : String → xw_A → Prop} {h : xw_A} {a0 : Nat}  (k : xw G m_Question_init F L bc bs pr px 75 [some (.ref a0), some (.int 0)] [] h) : xw G m_Question_init F L bc bs pr px 73 [some (.ref a0), none] [] h := by
  refine x_iconst (v := 0) d_Question_init_73 (by decide) ?_
  refine x_istore_n d_Question_init_74 rfl (by decide) rfl ?_
  show xw G m_Question_init F L bc bs pr px 75 [some (.ref a0), some (.int 0)] [] h
  exact k
theorem s_Question_init_75 {G : xw_G} {F L bc bs : Nat} {pr : Option Value → xw_A → Prop} {px : String → xw_A → Prop} {h : xw_A} {a0 : Nat} {x1 : Int32}  (kt : 24 ≤ x1 → xw G m_Question_init F L bc bs pr px 100 [none, none] [] h) (kf : ¬ 24 ≤ x1 → xw G m_Question_init F L bc bs pr px 81 [some (.ref a0), some (.int x1)] [] h) : xw G m_Question_init F L bc bs pr px 75 [some (.ref a0), some (.int x1)] [] h := by
  refine x_iload_n d_Question_init_75 rfl rfl ?_
  refine x_bipush (v := 24) d_Question_init_76 (by decide) ?_
  refine x_icmp_ge (tgt := 100) d_Question_init_78 (by decide) (fun hc => ?_) (fun hc => ?_)
  · exact x_le (lv' := [none, none]) (xw_le_n (xw_le_n xw_le_e)) (kt hc)
  · exact kf hc
theorem s_Question_init_81 {G : xw_G} {F L bc bs : Nat} {pr : Option Value → xw_A → Prop} {px : String → xw_A → Prop} {h : xw_A} {a0 : Nat} {x1 : Int32} {tokens_a0 : Option Nat} {phrases_a0 : Option Nat} {nodes_a0 : Option Nat} {phraseCount_a0 : Int32} {nodeCount_a0 : Int32} {wrongPlace_a0 : Int32} {parts_a0 : Option Nat} {letters_a0 : Option Nat} {at_a0 : Int32} (e_a0 : h a0 = some (.inr (5, [va_rf tokens_a0, va_rf phrases_a0, va_rf nodes_a0, .int phraseCount_a0, .int nodeCount_a0, .int wrongPlace_a0, va_rf parts_a0, va_rf letters_a0, .int at_a0]))) (u_86 : 1 ≤ bc ∧ 9 ≤ bs) (k : ∀ q86 : Nat, h q86 = none → xw G m_Question_init F L (bc - 1) (bs - 9) pr px 90 [some (.ref a0), some (.int x1)] [.ref q86, .ref q86, .int x1, va_rf nodes_a0] (xw_up h q86 (.inr (2, [.int 0, .null, .null, .int 0, .int 0, .int 0, .int 0, .int 0, .int 0])))) : xw G m_Question_init F L bc bs pr px 81 [some (.ref a0), some (.int x1)] [] h := by
  refine x_aload_n d_Question_init_81 rfl rfl ?_
  refine x_get d_Question_init_82 f_Question_30 e_a0 rfl ?_
  refine x_iload_n d_Question_init_85 rfl rfl ?_
  refine x_new (ci := 2) (fs := [.int 0, .null, .null, .int 0, .int 0, .int 0, .int 0, .int 0, .int 0]) d_Question_init_86 (by decide) nw_Question_28.1 nw_Question_28.2.1 nw_Question_28.2.2 df_Node u_86 (fun q86 hq86 => ?_)
  show xw G m_Question_init F L (bc - 1) (bs - 9) pr px 89 [some (.ref a0), some (.int x1)] [.ref q86, .int x1, va_rf nodes_a0] (xw_up h q86 (.inr (2, [.int 0, .null, .null, .int 0, .int 0, .int 0, .int 0, .int 0, .int 0])))
  refine x_dup d_Question_init_89 rfl ?_
  exact (k q86 hq86)
theorem s_Question_init_93 {G : xw_G} {F L bc bs : Nat} {pr : Option Value → xw_A → Prop} {px : String → xw_A → Prop} {h : xw_A} {a0 : Nat} {x1 : Int32} {b0 : Nat} {b2 : Nat} {n_b2 : Nat} {f_b2 : Nat → Option Nat} {kind_b0 : Int32} {left_b0 : Option Nat} {right_b0 : Option Nat} {firstPhrase_b0 : Int32} {phraseEnd_b0 : Int32} {reach_b0 : Int32} {columns_b0 : Int32} {places_b0 : Int32} {rows_b0 : Int32} (e_b2 : h b2 = some (.inl (2 + 6, n_b2, .inr (.inr (.inr (.inr f_b2)))))) (i_93 : vp_in x1 n_b2) (e_b0 : h b0 = some (.inr (2, [.int kind_b0, va_rf left_b0, va_rf right_b0, .int firstPhrase_b0, .int phraseEnd_b0, .int reach_b0, .int columns_b0, .int places_b0, .int rows_b0]))) (k : xw G m_Question_init F L bc bs pr px 75 [some (.ref a0), some (.int (x1 + 1))] [] (xw_up h b2 (.inl (2 + 6, n_b2, .inr (.inr (.inr (.inr (va_up f_b2 x1.toNatClampNeg (some b0))))))))) : xw G m_Question_init F L bc bs pr px 93 [some (.ref a0), some (.int x1)] [.ref b0, .int x1, .ref b2] h := by
  refine x_aast d_Question_init_93 (by decide) e_b2 e_b0 i_93 ?_
  refine x_iinc (v := x1 + 1) d_Question_init_94 rfl (by rfl) (by decide) rfl ?_
  show xw G m_Question_init F L bc bs pr px 97 [some (.ref a0), some (.int (x1 + 1))] [] (xw_up h b2 (.inl (2 + 6, n_b2, .inr (.inr (.inr (.inr (va_up f_b2 x1.toNatClampNeg (some b0))))))))
  refine x_goto (tgt := 75) d_Question_init_97 (by decide) ?_
  exact k
theorem s_Question_init_100 {G : xw_G} {F L bc bs : Nat} {pr : Option Value → xw_A → Prop} {px : String → xw_A → Prop} {h : xw_A}   (kr : pr none h) : xw G m_Question_init F L bc bs pr px 100 [none, none] [] h := by
  exact x_vret d_Question_init_100 rfl kr
theorem s_Question_read_0 {G : xw_G} {F L bc bs : Nat} {pr : Option Value → xw_A → Prop} {px : String → xw_A → Prop} {h : xw_A} {a0 : Nat} {a1 : Nat} {x2 : Int32} {tokens_a0 : Option Nat} {phrases_a0 : Option Nat} {nodes_a0 : Option Nat} {phraseCount_a0 : Int32} {nodeCount_a0 : Int32} {wrongPlace_a0 : Int32} {parts_a0 : Option Nat} {letters_a0 : Option Nat} {at_a0 : Int32} (e_a0 : h a0 = some (.inr (5, [va_rf tokens_a0, va_rf phrases_a0, va_rf nodes_a0, .int phraseCount_a0, .int nodeCount_a0, .int wrongPlace_a0, va_rf parts_a0, va_rf letters_a0, .int at_a0]))) (k : xw G m_Question_read F L bc bs pr px 6 [some (.ref a0), some (.ref a1), some (.int x2), none] [.int x2, .ref a1, va_rf parts_a0] h) : xw G m_Question_read F L bc bs pr px 0 [some (.ref a0), some (.ref a1), some (.int x2), none] [] h := by
  refine x_aload_n d_Question_read_0 rfl rfl ?_
  refine x_get d_Question_read_1 f_Question_35 e_a0 rfl ?_
  refine x_aload_n d_Question_read_4 rfl rfl ?_
  refine x_iload_n d_Question_read_5 rfl rfl ?_
  exact k
theorem s_Question_read_9 {G : xw_G} {F L bc bs : Nat} {pr : Option Value → xw_A → Prop} {px : String → xw_A → Prop} {h : xw_A} {a0 : Nat} {a1 : Nat} {tokens_a0 : Nat} {phrases_a0 : Option Nat} {nodes_a0 : Option Nat} {phraseCount_a0 : Int32} {nodeCount_a0 : Int32} {wrongPlace_a0 : Int32} {parts_a0 : Option Nat} {letters_a0 : Option Nat} {at_a0 : Int32} {letters_tokens_a0 : Option Nat} {starts_tokens_a0 : Option Nat} {count_tokens_a0 : Int32} (e_a0 : h a0 = some (.inr (5, [.ref tokens_a0, va_rf phrases_a0, va_rf nodes_a0, .int phraseCount_a0, .int nodeCount_a0, .int wrongPlace_a0, va_rf parts_a0, va_rf letters_a0, .int at_a0]))) (e_tokens_a0 : h tokens_a0 = some (.inr (9, [va_rf letters_tokens_a0, va_rf starts_tokens_a0, .int count_tokens_a0]))) (k : xw G m_Question_read F L bc bs pr px 32 [some (.ref a0), none, none, none] [] (xw_up (xw_up (xw_up (xw_up h a0 (.inr (5, [.ref tokens_a0, va_rf phrases_a0, va_rf nodes_a0, .int phraseCount_a0, .int nodeCount_a0, .int wrongPlace_a0, va_rf parts_a0, .ref a1, .int at_a0]))) a0 (.inr (5, [.ref tokens_a0, va_rf phrases_a0, va_rf nodes_a0, .int phraseCount_a0, .int nodeCount_a0, .int wrongPlace_a0, va_rf parts_a0, .ref a1, .int 0]))) tokens_a0 (.inr (9, [va_rf letters_tokens_a0, va_rf starts_tokens_a0, .int 0]))) a0 (.inr (5, [.ref tokens_a0, va_rf phrases_a0, va_rf nodes_a0, .int 0, .int nodeCount_a0, .int wrongPlace_a0, va_rf parts_a0, .ref a1, .int 0])))) : xw G m_Question_read F L bc bs pr px 9 [some (.ref a0), some (.ref a1), none, none] [] h := by
  refine x_aload_n d_Question_read_9 rfl rfl ?_
  refine x_aload_n d_Question_read_10 rfl rfl ?_
  refine x_put (ty := (.array .char)) d_Question_read_11 f_Question_45 fw_Question_7.1 fw_Question_7.2 rfl rfl (Nat.le_of_ble_eq_true rfl) e_a0 ?_
  show xw G m_Question_read F L bc bs pr px 14 [some (.ref a0), some (.ref a1), none, none] [] (xw_up h a0 (.inr (5, [.ref tokens_a0, va_rf phrases_a0, va_rf nodes_a0, .int phraseCount_a0, .int nodeCount_a0, .int wrongPlace_a0, va_rf parts_a0, .ref a1, .int at_a0])))
  refine x_aload_n d_Question_read_14 rfl rfl ?_
  refine x_iconst (v := 0) d_Question_read_15 (by decide) ?_
  refine x_put (ty := .int) d_Question_read_16 f_Question_49 fw_Question_8.1 fw_Question_8.2 rfl rfl (Nat.le_of_ble_eq_true rfl) (xw_up_s _ _ _) ?_
  show xw G m_Question_read F L bc bs pr px 19 [some (.ref a0), some (.ref a1), none, none] [] (xw_up (xw_up h a0 (.inr (5, [.ref tokens_a0, va_rf phrases_a0, va_rf nodes_a0, .int phraseCount_a0, .int nodeCount_a0, .int wrongPlace_a0, va_rf parts_a0, .ref a1, .int at_a0]))) a0 (.inr (5, [.ref tokens_a0, va_rf phrases_a0, va_rf nodes_a0, .int phraseCount_a0, .int nodeCount_a0, .int wrongPlace_a0, va_rf parts_a0, .ref a1, .int 0])))
  refine x_aload_n d_Question_read_19 rfl rfl ?_
  refine x_get d_Question_read_20 f_Question_16 (xw_up_s _ _ _) rfl ?_
  refine x_iconst (v := 0) d_Question_read_23 (by decide) ?_
  refine x_put (ty := .int) d_Question_read_24 f_Question_53 fw_Tokens_2.1 fw_Tokens_2.2 rfl rfl (Nat.le_of_ble_eq_true rfl) ((xw_up_n _ _ (xw_ne e_tokens_a0 e_a0 (by simp))).trans ((xw_up_n _ _ (xw_ne e_tokens_a0 e_a0 (by simp))).trans e_tokens_a0)) ?_
  show xw G m_Question_read F L bc bs pr px 27 [some (.ref a0), some (.ref a1), none, none] [] (xw_up (xw_up (xw_up h a0 (.inr (5, [.ref tokens_a0, va_rf phrases_a0, va_rf nodes_a0, .int phraseCount_a0, .int nodeCount_a0, .int wrongPlace_a0, va_rf parts_a0, .ref a1, .int at_a0]))) a0 (.inr (5, [.ref tokens_a0, va_rf phrases_a0, va_rf nodes_a0, .int phraseCount_a0, .int nodeCount_a0, .int wrongPlace_a0, va_rf parts_a0, .ref a1, .int 0]))) tokens_a0 (.inr (9, [va_rf letters_tokens_a0, va_rf starts_tokens_a0, .int 0])))
  refine x_aload_n d_Question_read_27 rfl rfl ?_
  refine x_iconst (v := 0) d_Question_read_28 (by decide) ?_
  refine x_put (ty := .int) d_Question_read_29 f_Question_56 fw_Question_3.1 fw_Question_3.2 rfl rfl (Nat.le_of_ble_eq_true rfl) ((xw_up_n _ _ (xw_ne e_a0 e_tokens_a0 (by simp))).trans (xw_up_s _ _ _)) ?_
  show xw G m_Question_read F L bc bs pr px 32 [some (.ref a0), some (.ref a1), none, none] [] (xw_up (xw_up (xw_up (xw_up h a0 (.inr (5, [.ref tokens_a0, va_rf phrases_a0, va_rf nodes_a0, .int phraseCount_a0, .int nodeCount_a0, .int wrongPlace_a0, va_rf parts_a0, .ref a1, .int at_a0]))) a0 (.inr (5, [.ref tokens_a0, va_rf phrases_a0, va_rf nodes_a0, .int phraseCount_a0, .int nodeCount_a0, .int wrongPlace_a0, va_rf parts_a0, .ref a1, .int 0]))) tokens_a0 (.inr (9, [va_rf letters_tokens_a0, va_rf starts_tokens_a0, .int 0]))) a0 (.inr (5, [.ref tokens_a0, va_rf phrases_a0, va_rf nodes_a0, .int 0, .int nodeCount_a0, .int wrongPlace_a0, va_rf parts_a0, .ref a1, .int 0])))
  exact x_le (lv' := [some (.ref a0), none, none, none]) (xw_le_s (xw_le_n (xw_le_n (xw_le_n xw_le_e)))) (k)
theorem s_Question_read_32 {G : xw_G} {F L bc bs : Nat} {pr : Option Value → xw_A → Prop} {px : String → xw_A → Prop} {h : xw_A} {a0 : Nat} {tokens_a0 : Option Nat} {phrases_a0 : Option Nat} {nodes_a0 : Option Nat} {phraseCount_a0 : Int32} {nodeCount_a0 : Int32} {wrongPlace_a0 : Int32} {parts_a0 : Option Nat} {letters_a0 : Option Nat} {at_a0 : Int32} (e_a0 : h a0 = some (.inr (5, [va_rf tokens_a0, va_rf phrases_a0, va_rf nodes_a0, .int phraseCount_a0, .int nodeCount_a0, .int wrongPlace_a0, va_rf parts_a0, va_rf letters_a0, .int at_a0]))) (k : xw G m_Question_read F L bc bs pr px 46 [some (.ref a0), none, none, none] [.int 0, .int 3, .int 5, .ref a0] (xw_up (xw_up h a0 (.inr (5, [va_rf tokens_a0, va_rf phrases_a0, va_rf nodes_a0, .int phraseCount_a0, .int 0, .int wrongPlace_a0, va_rf parts_a0, va_rf letters_a0, .int at_a0]))) a0 (.inr (5, [va_rf tokens_a0, va_rf phrases_a0, va_rf nodes_a0, .int phraseCount_a0, .int 0, .int ((-1)), va_rf parts_a0, va_rf letters_a0, .int at_a0])))) : xw G m_Question_read F L bc bs pr px 32 [some (.ref a0), none, none, none] [] h := by
  refine x_aload_n d_Question_read_32 rfl rfl ?_
  refine x_iconst (v := 0) d_Question_read_33 (by decide) ?_
  refine x_put (ty := .int) d_Question_read_34 f_Question_59 fw_Question_4.1 fw_Question_4.2 rfl rfl (Nat.le_of_ble_eq_true rfl) e_a0 ?_
  show xw G m_Question_read F L bc bs pr px 37 [some (.ref a0), none, none, none] [] (xw_up h a0 (.inr (5, [va_rf tokens_a0, va_rf phrases_a0, va_rf nodes_a0, .int phraseCount_a0, .int 0, .int wrongPlace_a0, va_rf parts_a0, va_rf letters_a0, .int at_a0])))
  refine x_aload_n d_Question_read_37 rfl rfl ?_
  refine x_iconst (v := -1) d_Question_read_38 (by decide) ?_
  refine x_put (ty := .int) d_Question_read_39 f_Question_62 fw_Question_5.1 fw_Question_5.2 rfl rfl (Nat.le_of_ble_eq_true rfl) (xw_up_s _ _ _) ?_
  show xw G m_Question_read F L bc bs pr px 42 [some (.ref a0), none, none, none] [] (xw_up (xw_up h a0 (.inr (5, [va_rf tokens_a0, va_rf phrases_a0, va_rf nodes_a0, .int phraseCount_a0, .int 0, .int wrongPlace_a0, va_rf parts_a0, va_rf letters_a0, .int at_a0]))) a0 (.inr (5, [va_rf tokens_a0, va_rf phrases_a0, va_rf nodes_a0, .int phraseCount_a0, .int 0, .int ((-1)), va_rf parts_a0, va_rf letters_a0, .int at_a0])))
  refine x_aload_n d_Question_read_42 rfl rfl ?_
  refine x_iconst (v := 5) d_Question_read_43 (by decide) ?_
  refine x_iconst (v := 3) d_Question_read_44 (by decide) ?_
  refine x_iconst (v := 0) d_Question_read_45 (by decide) ?_
  exact k
theorem s_Question_read_49 {G : xw_G} {F L bc bs : Nat} {pr : Option Value → xw_A → Prop} {px : String → xw_A → Prop} {h : xw_A} {a0 : Nat} {s0 : Option Nat}  (kn : s0 = none → xw G m_Question_read F L bc bs pr px 66 [none, none, none, some (va_rf s0)] [] h) (ks : ∀ a9 : Nat, s0 = some a9 → xw G m_Question_read F L bc bs pr px 54 [some (.ref a0), none, none, some (va_rf s0)] [] h) : xw G m_Question_read F L bc bs pr px 49 [some (.ref a0), none, none, none] [va_rf s0] h := by
  refine x_astoreq_n d_Question_read_49 rfl (by decide) trivial ?_
  show xw G m_Question_read F L bc bs pr px 50 [some (.ref a0), none, none, some (va_rf s0)] [] h
  refine x_aloadq_n d_Question_read_50 rfl rfl ?_
  refine x_ifnullq (tgt := 66) d_Question_read_51 (by decide) (fun hc => ?_) (fun a9 hc => ?_)
  · exact x_le (lv' := [none, none, none, some (va_rf s0)]) (xw_le_n (xw_le_n (xw_le_n (xw_le_s xw_le_e)))) (kn hc)
  · exact ks a9 hc
theorem s_Question_read_54 {G : xw_G} {F L bc bs : Nat} {pr : Option Value → xw_A → Prop} {px : String → xw_A → Prop} {h : xw_A} {a0 : Nat} {r3 : Option Nat}  (k : xw G m_Question_read F L bc bs pr px 55 [some (.ref a0), none, none, some (va_rf r3)] [.ref a0] h) : xw G m_Question_read F L bc bs pr px 54 [some (.ref a0), none, none, some (va_rf r3)] [] h := by
  refine x_aload_n d_Question_read_54 rfl rfl ?_
  exact k
theorem s_Question_read_58 {G : xw_G} {F L bc bs : Nat} {pr : Option Value → xw_A → Prop} {px : String → xw_A → Prop} {h : xw_A} {a0 : Nat} {r3 : Option Nat} {y0 : Int32}  (kt : y0 = 0 → xw G m_Question_read F L bc bs pr px 66 [none, none, none, some (va_rf r3)] [] h) (kf : ¬ y0 = 0 → xw G m_Question_read F L bc bs pr px 61 [some (.ref a0), none, none, none] [] h) : xw G m_Question_read F L bc bs pr px 58 [some (.ref a0), none, none, some (va_rf r3)] [.int y0] h := by
  refine x_if_eq (tgt := 66) d_Question_read_58 (by decide) (fun hc => ?_) (fun hc => ?_)
  · exact x_le (lv' := [none, none, none, some (va_rf r3)]) (xw_le_n (xw_le_n (xw_le_n (xw_le_s xw_le_e)))) (kt hc)
  · exact x_le (lv' := [some (.ref a0), none, none, none]) (xw_le_s (xw_le_n (xw_le_n (xw_le_n xw_le_e)))) (kf hc)
theorem s_Question_read_61 {G : xw_G} {F L bc bs : Nat} {pr : Option Value → xw_A → Prop} {px : String → xw_A → Prop} {h : xw_A} {a0 : Nat}  (k : xw G m_Question_read F L bc bs pr px 62 [some (.ref a0), none, none, none] [.ref a0] h) : xw G m_Question_read F L bc bs pr px 61 [some (.ref a0), none, none, none] [] h := by
  refine x_aload_n d_Question_read_61 rfl rfl ?_
  exact k
theorem s_Question_read_65 {G : xw_G} {F L bc bs : Nat} {pr : Option Value → xw_A → Prop} {px : String → xw_A → Prop} {h : xw_A} {s0 : Option Nat}  (k : xw G m_Question_read F L bc bs pr px 66 [none, none, none, some (va_rf s0)] [] h) : xw G m_Question_read F L bc bs pr px 65 [none, none, none, none] [va_rf s0] h := by
  refine x_astoreq_n d_Question_read_65 rfl (by decide) trivial ?_
  show xw G m_Question_read F L bc bs pr px 66 [none, none, none, some (va_rf s0)] [] h
  exact k
theorem s_Question_read_66 {G : xw_G} {F L bc bs : Nat} {pr : Option Value → xw_A → Prop} {px : String → xw_A → Prop} {h : xw_A} {r3 : Option Nat}  (kn : r3 = none → xw G m_Question_read F L bc bs pr px 74 [none, none, none, none] [] h) (ks : ∀ a9 : Nat, r3 = some a9 → xw G m_Question_read F L bc bs pr px 70 [none, none, none, none] [] h) : xw G m_Question_read F L bc bs pr px 66 [none, none, none, some (va_rf r3)] [] h := by
  refine x_aloadq_n d_Question_read_66 rfl rfl ?_
  refine x_ifnullq (tgt := 74) d_Question_read_67 (by decide) (fun hc => ?_) (fun a9 hc => ?_)
  · exact x_le (lv' := [none, none, none, none]) (xw_le_n (xw_le_n (xw_le_n (xw_le_n xw_le_e)))) (kn hc)
  · exact x_le (lv' := [none, none, none, none]) (xw_le_n (xw_le_n (xw_le_n (xw_le_n xw_le_e)))) (ks a9 hc)
theorem s_Question_read_70 {G : xw_G} {F L bc bs : Nat} {pr : Option Value → xw_A → Prop} {px : String → xw_A → Prop} {h : xw_A}   (k : xw G m_Question_read F L bc bs pr px 75 [none, none, none, none] [.int 1] h) : xw G m_Question_read F L bc bs pr px 70 [none, none, none, none] [] h := by
  refine x_iconst (v := 1) d_Question_read_70 (by decide) ?_
  refine x_goto (tgt := 75) d_Question_read_71 (by decide) ?_
  exact k
theorem s_Question_read_74 {G : xw_G} {F L bc bs : Nat} {pr : Option Value → xw_A → Prop} {px : String → xw_A → Prop} {h : xw_A}   (k : xw G m_Question_read F L bc bs pr px 75 [none, none, none, none] [.int 0] h) : xw G m_Question_read F L bc bs pr px 74 [none, none, none, none] [] h := by
  refine x_iconst (v := 0) d_Question_read_74 (by decide) ?_
  exact k
theorem s_Question_read_75 {G : xw_G} {F L bc bs : Nat} {pr : Option Value → xw_A → Prop} {px : String → xw_A → Prop} {h : xw_A} {y0 : Int32} (w_75 : narrow .boolean (.int y0) = .int y0) (kr : pr (some (.int y0)) h) : xw G m_Question_read F L bc bs pr px 75 [none, none, none, none] [.int y0] h := by
  exact x_zret d_Question_read_75 rfl w_75 kr
theorem s_Question_joined_0 {G : xw_G} {F L bc bs : Nat} {pr : Option Value → xw_A → Prop} {px : String → xw_A → Prop} {h : xw_A} {a0 : Nat} {x1 : Int32} {x2 : Int32} {x3 : Int32}  (k : xw G m_Question_joined F L bc bs pr px 4 [some (.ref a0), some (.int x1), some (.int x2), some (.int x3), none, none, none] [.int x3, .int x2, .int x1, .ref a0] h) : xw G m_Question_joined F L bc bs pr px 0 [some (.ref a0), some (.int x1), some (.int x2), some (.int x3), none, none, none] [] h := by
  refine x_aload_n d_Question_joined_0 rfl rfl ?_
  refine x_iload_n d_Question_joined_1 rfl rfl ?_
  refine x_iload_n d_Question_joined_2 rfl rfl ?_
  refine x_iload_n d_Question_joined_3 rfl rfl ?_
  exact k
theorem s_Question_joined_7 {G : xw_G} {F L bc bs : Nat} {pr : Option Value → xw_A → Prop} {px : String → xw_A → Prop} {h : xw_A} {a0 : Nat} {x1 : Int32} {x2 : Int32} {x3 : Int32} {s0 : Option Nat}  (k : xw G m_Question_joined F L bc bs pr px 12 [some (.ref a0), some (.int x1), some (.int x2), some (.int x3), some (va_rf s0), some (.int 0), none] [] h) : xw G m_Question_joined F L bc bs pr px 7 [some (.ref a0), some (.int x1), some (.int x2), some (.int x3), none, none, none] [va_rf s0] h := by
  refine x_astoreq d_Question_joined_7 (by decide) rfl ?_
  show xw G m_Question_joined F L bc bs pr px 9 [some (.ref a0), some (.int x1), some (.int x2), some (.int x3), some (va_rf s0), none, none] [] h
  refine x_iconst (v := 0) d_Question_joined_9 (by decide) ?_
  refine x_istore d_Question_joined_10 (by decide) (vl_cat _) ?_
  show xw G m_Question_joined F L bc bs pr px 12 [some (.ref a0), some (.int x1), some (.int x2), some (.int x3), some (va_rf s0), some (.int 0), none] [] h
  exact k
theorem s_Question_joined_12 {G : xw_G} {F L bc bs : Nat} {pr : Option Value → xw_A → Prop} {px : String → xw_A → Prop} {h : xw_A} {a0 : Nat} {x1 : Int32} {x2 : Int32} {x3 : Int32} {r4 : Option Nat} {x5 : Int32}  (kt : 96 ≤ x5 → xw G m_Question_joined F L bc bs pr px 67 [none, none, none, none, some (va_rf r4), none, none] [] h) (kf : ¬ 96 ≤ x5 → xw G m_Question_joined F L bc bs pr px 19 [some (.ref a0), some (.int x1), some (.int x2), some (.int x3), some (va_rf r4), some (.int x5), none] [] h) : xw G m_Question_joined F L bc bs pr px 12 [some (.ref a0), some (.int x1), some (.int x2), some (.int x3), some (va_rf r4), some (.int x5), none] [] h := by
  refine x_iload d_Question_joined_12 rfl ?_
  refine x_bipush (v := 96) d_Question_joined_14 (by decide) ?_
  refine x_icmp_ge (tgt := 67) d_Question_joined_16 (by decide) (fun hc => ?_) (fun hc => ?_)
  · exact x_le (lv' := [none, none, none, none, some (va_rf r4), none, none]) (xw_le_n (xw_le_n (xw_le_n (xw_le_n (xw_le_s (xw_le_n (xw_le_n xw_le_e))))))) (kt hc)
  · exact kf hc
theorem s_Question_joined_19 {G : xw_G} {F L bc bs : Nat} {pr : Option Value → xw_A → Prop} {px : String → xw_A → Prop} {h : xw_A} {a0 : Nat} {x1 : Int32} {x2 : Int32} {x3 : Int32} {r4 : Option Nat} {x5 : Int32}  (kn : r4 = none → xw G m_Question_joined F L bc bs pr px 67 [none, none, none, none, some (va_rf r4), none, none] [] h) (ks : ∀ a9 : Nat, r4 = some a9 → xw G m_Question_joined F L bc bs pr px 24 [some (.ref a0), some (.int x1), some (.int x2), some (.int x3), some (va_rf r4), some (.int x5), none] [] h) : xw G m_Question_joined F L bc bs pr px 19 [some (.ref a0), some (.int x1), some (.int x2), some (.int x3), some (va_rf r4), some (.int x5), none] [] h := by
  refine x_aloadq d_Question_joined_19 rfl ?_
  refine x_ifnullq (tgt := 67) d_Question_joined_21 (by decide) (fun hc => ?_) (fun a9 hc => ?_)
  · exact x_le (lv' := [none, none, none, none, some (va_rf r4), none, none]) (xw_le_n (xw_le_n (xw_le_n (xw_le_n (xw_le_s (xw_le_n (xw_le_n xw_le_e))))))) (kn hc)
  · exact ks a9 hc
theorem s_Question_joined_24 {G : xw_G} {F L bc bs : Nat} {pr : Option Value → xw_A → Prop} {px : String → xw_A → Prop} {h : xw_A} {a0 : Nat} {x1 : Int32} {x2 : Int32} {x3 : Int32} {r4 : Option Nat} {x5 : Int32}  (k : xw G m_Question_joined F L bc bs pr px 26 [some (.ref a0), some (.int x1), some (.int x2), some (.int x3), some (va_rf r4), some (.int x5), none] [.int x1, .ref a0] h) : xw G m_Question_joined F L bc bs pr px 24 [some (.ref a0), some (.int x1), some (.int x2), some (.int x3), some (va_rf r4), some (.int x5), none] [] h := by
  refine x_aload_n d_Question_joined_24 rfl rfl ?_
  refine x_iload_n d_Question_joined_25 rfl rfl ?_
  exact k
theorem s_Question_joined_29 {G : xw_G} {F L bc bs : Nat} {pr : Option Value → xw_A → Prop} {px : String → xw_A → Prop} {h : xw_A} {a0 : Nat} {x1 : Int32} {x2 : Int32} {x3 : Int32} {r4 : Option Nat} {x5 : Int32} {y0 : Int32}  (kt : y0 = 0 → xw G m_Question_joined F L bc bs pr px 67 [none, none, none, none, some (va_rf r4), none, none] [] h) (kf : ¬ y0 = 0 → xw G m_Question_joined F L bc bs pr px 32 [some (.ref a0), some (.int x1), some (.int x2), some (.int x3), some (va_rf r4), some (.int x5), none] [] h) : xw G m_Question_joined F L bc bs pr px 29 [some (.ref a0), some (.int x1), some (.int x2), some (.int x3), some (va_rf r4), some (.int x5), none] [.int y0] h := by
  refine x_if_eq (tgt := 67) d_Question_joined_29 (by decide) (fun hc => ?_) (fun hc => ?_)
  · exact x_le (lv' := [none, none, none, none, some (va_rf r4), none, none]) (xw_le_n (xw_le_n (xw_le_n (xw_le_n (xw_le_s (xw_le_n (xw_le_n xw_le_e))))))) (kt hc)
  · exact kf hc
theorem s_Question_joined_32 {G : xw_G} {F L bc bs : Nat} {pr : Option Value → xw_A → Prop} {px : String → xw_A → Prop} {h : xw_A} {a0 : Nat} {x1 : Int32} {x2 : Int32} {x3 : Int32} {r4 : Option Nat} {x5 : Int32}  (k : xw G m_Question_joined F L bc bs pr px 36 [some (.ref a0), some (.int x1), some (.int x2), some (.int x3), some (va_rf r4), some (.int x5), none] [.int x3, .int x2, .int x1, .ref a0] h) : xw G m_Question_joined F L bc bs pr px 32 [some (.ref a0), some (.int x1), some (.int x2), some (.int x3), some (va_rf r4), some (.int x5), none] [] h := by
  refine x_aload_n d_Question_joined_32 rfl rfl ?_
  refine x_iload_n d_Question_joined_33 rfl rfl ?_
  refine x_iload_n d_Question_joined_34 rfl rfl ?_
  refine x_iload_n d_Question_joined_35 rfl rfl ?_
  exact k
theorem s_Question_joined_39 {G : xw_G} {F L bc bs : Nat} {pr : Option Value → xw_A → Prop} {px : String → xw_A → Prop} {h : xw_A} {a0 : Nat} {x1 : Int32} {x2 : Int32} {x3 : Int32} {r4 : Option Nat} {x5 : Int32} {s0 : Option Nat}  (kn : s0 = none → xw G m_Question_joined F L bc bs pr px 46 [some (.ref a0), some (.int x1), some (.int x2), some (.int x3), none, some (.int x5), none] [] h) (ks : ∀ a9 : Nat, s0 = some a9 → xw G m_Question_joined F L bc bs pr px 50 [some (.ref a0), some (.int x1), some (.int x2), some (.int x3), some (va_rf r4), some (.int x5), some (va_rf s0)] [] h) : xw G m_Question_joined F L bc bs pr px 39 [some (.ref a0), some (.int x1), some (.int x2), some (.int x3), some (va_rf r4), some (.int x5), none] [va_rf s0] h := by
  refine x_astoreq d_Question_joined_39 (by decide) rfl ?_
  show xw G m_Question_joined F L bc bs pr px 41 [some (.ref a0), some (.int x1), some (.int x2), some (.int x3), some (va_rf r4), some (.int x5), some (va_rf s0)] [] h
  refine x_aloadq d_Question_joined_41 rfl ?_
  refine x_ifnonnullq (tgt := 50) d_Question_joined_43 (by decide) (fun hc => ?_) (fun a9 hc => ?_)
  · exact x_le (lv' := [some (.ref a0), some (.int x1), some (.int x2), some (.int x3), none, some (.int x5), none]) (xw_le_s (xw_le_s (xw_le_s (xw_le_s (xw_le_n (xw_le_s (xw_le_n xw_le_e))))))) (kn hc)
  · exact ks a9 hc
theorem s_Question_joined_46 {G : xw_G} {F L bc bs : Nat} {pr : Option Value → xw_A → Prop} {px : String → xw_A → Prop} {h : xw_A} {a0 : Nat} {x1 : Int32} {x2 : Int32} {x3 : Int32} {x5 : Int32}  (k : xw G m_Question_joined F L bc bs pr px 59 [some (.ref a0), some (.int x1), some (.int x2), some (.int x3), none, some (.int x5), none] [.null] h) : xw G m_Question_joined F L bc bs pr px 46 [some (.ref a0), some (.int x1), some (.int x2), some (.int x3), none, some (.int x5), none] [] h := by
  refine x_null d_Question_joined_46 ?_
  refine x_goto (tgt := 59) d_Question_joined_47 (by decide) ?_
  exact k
theorem s_Question_joined_50 {G : xw_G} {F L bc bs : Nat} {pr : Option Value → xw_A → Prop} {px : String → xw_A → Prop} {h : xw_A} {a0 : Nat} {x1 : Int32} {x2 : Int32} {x3 : Int32} {r4 : Option Nat} {x5 : Int32} {r6 : Option Nat}  (k : xw G m_Question_joined F L bc bs pr px 56 [some (.ref a0), some (.int x1), some (.int x2), some (.int x3), some (va_rf r4), some (.int x5), some (va_rf r6)] [va_rf r6, va_rf r4, .int x1, .ref a0] h) : xw G m_Question_joined F L bc bs pr px 50 [some (.ref a0), some (.int x1), some (.int x2), some (.int x3), some (va_rf r4), some (.int x5), some (va_rf r6)] [] h := by
  refine x_aload_n d_Question_joined_50 rfl rfl ?_
  refine x_iload_n d_Question_joined_51 rfl rfl ?_
  refine x_aloadq d_Question_joined_52 rfl ?_
  refine x_aloadq d_Question_joined_54 rfl ?_
  exact k
theorem s_Question_joined_59 {G : xw_G} {F L bc bs : Nat} {pr : Option Value → xw_A → Prop} {px : String → xw_A → Prop} {h : xw_A} {a0 : Nat} {x1 : Int32} {x2 : Int32} {x3 : Int32} {x5 : Int32} {s0 : Option Nat}  (k : xw G m_Question_joined F L bc bs pr px 12 [some (.ref a0), some (.int x1), some (.int x2), some (.int x3), some (va_rf s0), some (.int (x5 + 1)), none] [] h) : xw G m_Question_joined F L bc bs pr px 59 [some (.ref a0), some (.int x1), some (.int x2), some (.int x3), none, some (.int x5), none] [va_rf s0] h := by
  refine x_astoreq d_Question_joined_59 (by decide) rfl ?_
  show xw G m_Question_joined F L bc bs pr px 61 [some (.ref a0), some (.int x1), some (.int x2), some (.int x3), some (va_rf s0), some (.int x5), none] [] h
  refine x_iinc (v := x5 + 1) d_Question_joined_61 rfl (by rfl) (by decide) (vl_cat _) ?_
  show xw G m_Question_joined F L bc bs pr px 64 [some (.ref a0), some (.int x1), some (.int x2), some (.int x3), some (va_rf s0), some (.int (x5 + 1)), none] [] h
  refine x_goto (tgt := 12) d_Question_joined_64 (by decide) ?_
  exact k
theorem s_Question_joined_67 {G : xw_G} {F L bc bs : Nat} {pr : Option Value → xw_A → Prop} {px : String → xw_A → Prop} {h : xw_A} {r4 : Option Nat}  (kr : pr (some (va_rf r4)) h) : xw G m_Question_joined F L bc bs pr px 67 [none, none, none, none, some (va_rf r4), none, none] [] h := by
  refine x_aloadq d_Question_joined_67 rfl ?_
  exact x_aret d_Question_joined_69 rfl (Or.inl ⟨_, rfl⟩) (va_rf_or _) kr
theorem s_Question_operand_0 {G : xw_G} {F L bc bs : Nat} {pr : Option Value → xw_A → Prop} {px : String → xw_A → Prop} {h : xw_A} {a0 : Nat} {x1 : Int32} {x2 : Int32} {x3 : Int32}  (kt : ¬ x1 = 8 → xw G m_Question_operand F L bc bs pr px 15 [some (.ref a0), some (.int x1), some (.int x2), some (.int x3)] [] h) (kf : x1 = 8 → xw G m_Question_operand F L bc bs pr px 6 [some (.ref a0), none, some (.int x2), some (.int x3)] [] h) : xw G m_Question_operand F L bc bs pr px 0 [some (.ref a0), some (.int x1), some (.int x2), some (.int x3)] [] h := by
  refine x_iload_n d_Question_operand_0 rfl rfl ?_
  refine x_bipush (v := 8) d_Question_operand_1 (by decide) ?_
  refine x_icmp_ne (tgt := 15) d_Question_operand_3 (by decide) (fun hc => ?_) (fun hc => ?_)
  · exact kt hc
  · exact x_le (lv' := [some (.ref a0), none, some (.int x2), some (.int x3)]) (xw_le_s (xw_le_n (xw_le_s (xw_le_s xw_le_e)))) (kf hc)
theorem s_Question_operand_6 {G : xw_G} {F L bc bs : Nat} {pr : Option Value → xw_A → Prop} {px : String → xw_A → Prop} {h : xw_A} {a0 : Nat} {x2 : Int32} {x3 : Int32}  (k : xw G m_Question_operand F L bc bs pr px 9 [some (.ref a0), none, some (.int x2), some (.int x3)] [.int x3, .int x2, .ref a0] h) : xw G m_Question_operand F L bc bs pr px 6 [some (.ref a0), none, some (.int x2), some (.int x3)] [] h := by
  refine x_aload_n d_Question_operand_6 rfl rfl ?_
  refine x_iload_n d_Question_operand_7 rfl rfl ?_
  refine x_iload_n d_Question_operand_8 rfl rfl ?_
  exact k
theorem s_Question_operand_12 {G : xw_G} {F L bc bs : Nat} {pr : Option Value → xw_A → Prop} {px : String → xw_A → Prop} {h : xw_A} {s0 : Option Nat}  (k : xw G m_Question_operand F L bc bs pr px 24 [none, none, none, none] [va_rf s0] h) : xw G m_Question_operand F L bc bs pr px 12 [none, none, none, none] [va_rf s0] h := by
  refine x_goto (tgt := 24) d_Question_operand_12 (by decide) ?_
  exact k
theorem s_Question_operand_15 {G : xw_G} {F L bc bs : Nat} {pr : Option Value → xw_A → Prop} {px : String → xw_A → Prop} {h : xw_A} {a0 : Nat} {x1 : Int32} {x2 : Int32} {x3 : Int32}  (k : xw G m_Question_operand F L bc bs pr px 21 [some (.ref a0), some (.int x1), some (.int x2), some (.int x3)] [.int x3, .int x2, .int (x1 + 1), .ref a0] h) : xw G m_Question_operand F L bc bs pr px 15 [some (.ref a0), some (.int x1), some (.int x2), some (.int x3)] [] h := by
  refine x_aload_n d_Question_operand_15 rfl rfl ?_
  refine x_iload_n d_Question_operand_16 rfl rfl ?_
  refine x_iconst (v := 1) d_Question_operand_17 (by decide) ?_
  refine x_iadd d_Question_operand_18 ?_
  refine x_iload_n d_Question_operand_19 rfl rfl ?_
  refine x_iload_n d_Question_operand_20 rfl rfl ?_
  exact k
theorem s_Question_operand_24 {G : xw_G} {F L bc bs : Nat} {pr : Option Value → xw_A → Prop} {px : String → xw_A → Prop} {h : xw_A} {s0 : Option Nat}  (kr : pr (some (va_rf s0)) h) : xw G m_Question_operand F L bc bs pr px 24 [none, none, none, none] [va_rf s0] h := by
  exact x_aret d_Question_operand_24 rfl (Or.inl ⟨_, rfl⟩) (va_rf_or _) kr
theorem s_Question_atom_0 {G : xw_G} {F L bc bs : Nat} {pr : Option Value → xw_A → Prop} {px : String → xw_A → Prop} {h : xw_A} {a0 : Nat} {x1 : Int32} {x2 : Int32}  (k : xw G m_Question_atom F L bc bs pr px 1 [some (.ref a0), some (.int x1), some (.int x2)] [.ref a0] h) : xw G m_Question_atom F L bc bs pr px 0 [some (.ref a0), some (.int x1), some (.int x2)] [] h := by
  refine x_aload_n d_Question_atom_0 rfl rfl ?_
  exact k
theorem s_Question_atom_4 {G : xw_G} {F L bc bs : Nat} {pr : Option Value → xw_A → Prop} {px : String → xw_A → Prop} {h : xw_A} {a0 : Nat} {x1 : Int32} {x2 : Int32} {y0 : Int32}  (kt : y0 = 0 → xw G m_Question_atom F L bc bs pr px 29 [some (.ref a0), some (.int x1), none] [] h) (kf : ¬ y0 = 0 → xw G m_Question_atom F L bc bs pr px 7 [some (.ref a0), some (.int x1), some (.int x2)] [] h) : xw G m_Question_atom F L bc bs pr px 4 [some (.ref a0), some (.int x1), some (.int x2)] [.int y0] h := by
  refine x_if_eq (tgt := 29) d_Question_atom_4 (by decide) (fun hc => ?_) (fun hc => ?_)
  · exact x_le (lv' := [some (.ref a0), some (.int x1), none]) (xw_le_s (xw_le_s (xw_le_n xw_le_e))) (kt hc)
  · exact kf hc
theorem s_Question_atom_7 {G : xw_G} {F L bc bs : Nat} {pr : Option Value → xw_A → Prop} {px : String → xw_A → Prop} {h : xw_A} {a0 : Nat} {x1 : Int32} {x2 : Int32}  (kt : x2 < 8 → xw G m_Question_atom F L bc bs pr px 20 [some (.ref a0), some (.int x1), some (.int x2)] [] h) (kf : ¬ x2 < 8 → xw G m_Question_atom F L bc bs pr px 13 [some (.ref a0), none, none] [] h) : xw G m_Question_atom F L bc bs pr px 7 [some (.ref a0), some (.int x1), some (.int x2)] [] h := by
  refine x_iload_n d_Question_atom_7 rfl rfl ?_
  refine x_bipush (v := 8) d_Question_atom_8 (by decide) ?_
  refine x_icmp_lt (tgt := 20) d_Question_atom_10 (by decide) (fun hc => ?_) (fun hc => ?_)
  · exact kt hc
  · exact x_le (lv' := [some (.ref a0), none, none]) (xw_le_s (xw_le_n (xw_le_n xw_le_e))) (kf hc)
theorem s_Question_atom_13 {G : xw_G} {F L bc bs : Nat} {pr : Option Value → xw_A → Prop} {px : String → xw_A → Prop} {h : xw_A} {a0 : Nat}  (k : xw G m_Question_atom F L bc bs pr px 14 [some (.ref a0), none, none] [.ref a0] h) : xw G m_Question_atom F L bc bs pr px 13 [some (.ref a0), none, none] [] h := by
  refine x_aload_n d_Question_atom_13 rfl rfl ?_
  exact k
theorem s_Question_atom_17 {G : xw_G} {F L bc bs : Nat} {pr : Option Value → xw_A → Prop} {px : String → xw_A → Prop} {h : xw_A} {s0 : Option Nat}  (k : xw G m_Question_atom F L bc bs pr px 28 [none, none, none] [va_rf s0] h) : xw G m_Question_atom F L bc bs pr px 17 [none, none, none] [va_rf s0] h := by
  refine x_goto (tgt := 28) d_Question_atom_17 (by decide) ?_
  exact k
theorem s_Question_atom_20 {G : xw_G} {F L bc bs : Nat} {pr : Option Value → xw_A → Prop} {px : String → xw_A → Prop} {h : xw_A} {a0 : Nat} {x1 : Int32} {x2 : Int32}  (k : xw G m_Question_atom F L bc bs pr px 25 [some (.ref a0), some (.int x1), some (.int x2)] [.int (x2 + 1), .int x1, .ref a0] h) : xw G m_Question_atom F L bc bs pr px 20 [some (.ref a0), some (.int x1), some (.int x2)] [] h := by
  refine x_aload_n d_Question_atom_20 rfl rfl ?_
  refine x_iload_n d_Question_atom_21 rfl rfl ?_
  refine x_iload_n d_Question_atom_22 rfl rfl ?_
  refine x_iconst (v := 1) d_Question_atom_23 (by decide) ?_
  refine x_iadd d_Question_atom_24 ?_
  exact k
theorem s_Question_atom_28 {G : xw_G} {F L bc bs : Nat} {pr : Option Value → xw_A → Prop} {px : String → xw_A → Prop} {h : xw_A} {s0 : Option Nat}  (kr : pr (some (va_rf s0)) h) : xw G m_Question_atom F L bc bs pr px 28 [none, none, none] [va_rf s0] h := by
  exact x_aret d_Question_atom_28 rfl (Or.inl ⟨_, rfl⟩) (va_rf_or _) kr
theorem s_Question_atom_29 {G : xw_G} {F L bc bs : Nat} {pr : Option Value → xw_A → Prop} {px : String → xw_A → Prop} {h : xw_A} {a0 : Nat} {x1 : Int32}  (k : xw G m_Question_atom F L bc bs pr px 32 [some (.ref a0), some (.int x1), none] [.int 8, .ref a0] h) : xw G m_Question_atom F L bc bs pr px 29 [some (.ref a0), some (.int x1), none] [] h := by
  refine x_aload_n d_Question_atom_29 rfl rfl ?_
  refine x_bipush (v := 8) d_Question_atom_30 (by decide) ?_
  exact k
theorem s_Question_atom_35 {G : xw_G} {F L bc bs : Nat} {pr : Option Value → xw_A → Prop} {px : String → xw_A → Prop} {h : xw_A} {a0 : Nat} {x1 : Int32} {y0 : Int32}  (kt : y0 = 0 → xw G m_Question_atom F L bc bs pr px 46 [some (.ref a0), some (.int x1), none] [] h) (kf : ¬ y0 = 0 → xw G m_Question_atom F L bc bs pr px 38 [some (.ref a0), some (.int x1), none] [] h) : xw G m_Question_atom F L bc bs pr px 35 [some (.ref a0), some (.int x1), none] [.int y0] h := by
  refine x_if_eq (tgt := 46) d_Question_atom_35 (by decide) (fun hc => ?_) (fun hc => ?_)
  · exact kt hc
  · exact kf hc
theorem s_Question_atom_38 {G : xw_G} {F L bc bs : Nat} {pr : Option Value → xw_A → Prop} {px : String → xw_A → Prop} {h : xw_A} {a0 : Nat} {x1 : Int32}  (k : xw G m_Question_atom F L bc bs pr px 40 [some (.ref a0), some (.int x1), none] [.int x1, .ref a0] h) : xw G m_Question_atom F L bc bs pr px 38 [some (.ref a0), some (.int x1), none] [] h := by
  refine x_aload_n d_Question_atom_38 rfl rfl ?_
  refine x_iload_n d_Question_atom_39 rfl rfl ?_
  exact k
theorem s_Question_atom_43 {G : xw_G} {F L bc bs : Nat} {pr : Option Value → xw_A → Prop} {px : String → xw_A → Prop} {h : xw_A} {s0 : Option Nat}  (k : xw G m_Question_atom F L bc bs pr px 51 [none, none, none] [va_rf s0] h) : xw G m_Question_atom F L bc bs pr px 43 [none, none, none] [va_rf s0] h := by
  refine x_goto (tgt := 51) d_Question_atom_43 (by decide) ?_
  exact k
theorem s_Question_atom_46 {G : xw_G} {F L bc bs : Nat} {pr : Option Value → xw_A → Prop} {px : String → xw_A → Prop} {h : xw_A} {a0 : Nat} {x1 : Int32}  (k : xw G m_Question_atom F L bc bs pr px 48 [some (.ref a0), some (.int x1), none] [.int x1, .ref a0] h) : xw G m_Question_atom F L bc bs pr px 46 [some (.ref a0), some (.int x1), none] [] h := by
  refine x_aload_n d_Question_atom_46 rfl rfl ?_
  refine x_iload_n d_Question_atom_47 rfl rfl ?_
  exact k
theorem s_Question_atom_51 {G : xw_G} {F L bc bs : Nat} {pr : Option Value → xw_A → Prop} {px : String → xw_A → Prop} {h : xw_A} {s0 : Option Nat}  (kr : pr (some (va_rf s0)) h) : xw G m_Question_atom F L bc bs pr px 51 [none, none, none] [va_rf s0] h := by
  exact x_aret d_Question_atom_51 rfl (Or.inl ⟨_, rfl⟩) (va_rf_or _) kr
theorem s_Question_beginsDeeper_0 {G : xw_G} {F L bc bs : Nat} {pr : Option Value → xw_A → Prop} {px : String → xw_A → Prop} {h : xw_A} {a0 : Nat}  (k : xw G m_Question_beginsDeeper F L bc bs pr px 1 [some (.ref a0), none] [.ref a0] h) : xw G m_Question_beginsDeeper F L bc bs pr px 0 [some (.ref a0), none] [] h := by
  refine x_aload_n d_Question_beginsDeeper_0 rfl rfl ?_
  exact k
theorem s_Question_beginsDeeper_4 {G : xw_G} {F L bc bs : Nat} {pr : Option Value → xw_A → Prop} {px : String → xw_A → Prop} {h : xw_A} {y0 : Int32}  (kt : y0 = 9 → xw G m_Question_beginsDeeper F L bc bs pr px 22 [none, none] [] h) (kf : ¬ y0 = 9 → xw G m_Question_beginsDeeper F L bc bs pr px 11 [none, some (.int y0)] [] h) : xw G m_Question_beginsDeeper F L bc bs pr px 4 [none, none] [.int y0] h := by
  refine x_istore_n d_Question_beginsDeeper_4 rfl (by decide) trivial ?_
  show xw G m_Question_beginsDeeper F L bc bs pr px 5 [none, some (.int y0)] [] h
  refine x_iload_n d_Question_beginsDeeper_5 rfl rfl ?_
  refine x_bipush (v := 9) d_Question_beginsDeeper_6 (by decide) ?_
  refine x_icmp_eq (tgt := 22) d_Question_beginsDeeper_8 (by decide) (fun hc => ?_) (fun hc => ?_)
  · exact x_le (lv' := [none, none]) (xw_le_n (xw_le_n xw_le_e)) (kt hc)
  · exact kf hc
theorem s_Question_beginsDeeper_11 {G : xw_G} {F L bc bs : Nat} {pr : Option Value → xw_A → Prop} {px : String → xw_A → Prop} {h : xw_A} {x1 : Int32}  (kt : x1 = 11 → xw G m_Question_beginsDeeper F L bc bs pr px 22 [none, none] [] h) (kf : ¬ x1 = 11 → xw G m_Question_beginsDeeper F L bc bs pr px 17 [none, some (.int x1)] [] h) : xw G m_Question_beginsDeeper F L bc bs pr px 11 [none, some (.int x1)] [] h := by
  refine x_iload_n d_Question_beginsDeeper_11 rfl rfl ?_
  refine x_bipush (v := 11) d_Question_beginsDeeper_12 (by decide) ?_
  refine x_icmp_eq (tgt := 22) d_Question_beginsDeeper_14 (by decide) (fun hc => ?_) (fun hc => ?_)
  · exact x_le (lv' := [none, none]) (xw_le_n (xw_le_n xw_le_e)) (kt hc)
  · exact kf hc
theorem s_Question_beginsDeeper_17 {G : xw_G} {F L bc bs : Nat} {pr : Option Value → xw_A → Prop} {px : String → xw_A → Prop} {h : xw_A} {x1 : Int32}  (kt : ¬ x1 = 3 → xw G m_Question_beginsDeeper F L bc bs pr px 26 [none, none] [] h) (kf : x1 = 3 → xw G m_Question_beginsDeeper F L bc bs pr px 22 [none, none] [] h) : xw G m_Question_beginsDeeper F L bc bs pr px 17 [none, some (.int x1)] [] h := by
  refine x_iload_n d_Question_beginsDeeper_17 rfl rfl ?_
  refine x_iconst (v := 3) d_Question_beginsDeeper_18 (by decide) ?_
  refine x_icmp_ne (tgt := 26) d_Question_beginsDeeper_19 (by decide) (fun hc => ?_) (fun hc => ?_)
  · exact x_le (lv' := [none, none]) (xw_le_n (xw_le_n xw_le_e)) (kt hc)
  · exact x_le (lv' := [none, none]) (xw_le_n (xw_le_n xw_le_e)) (kf hc)
theorem s_Question_beginsDeeper_22 {G : xw_G} {F L bc bs : Nat} {pr : Option Value → xw_A → Prop} {px : String → xw_A → Prop} {h : xw_A}   (k : xw G m_Question_beginsDeeper F L bc bs pr px 27 [none, none] [.int 1] h) : xw G m_Question_beginsDeeper F L bc bs pr px 22 [none, none] [] h := by
  refine x_iconst (v := 1) d_Question_beginsDeeper_22 (by decide) ?_
  refine x_goto (tgt := 27) d_Question_beginsDeeper_23 (by decide) ?_
  exact k
theorem s_Question_beginsDeeper_26 {G : xw_G} {F L bc bs : Nat} {pr : Option Value → xw_A → Prop} {px : String → xw_A → Prop} {h : xw_A}   (k : xw G m_Question_beginsDeeper F L bc bs pr px 27 [none, none] [.int 0] h) : xw G m_Question_beginsDeeper F L bc bs pr px 26 [none, none] [] h := by
  refine x_iconst (v := 0) d_Question_beginsDeeper_26 (by decide) ?_
  exact k
theorem s_Question_beginsDeeper_27 {G : xw_G} {F L bc bs : Nat} {pr : Option Value → xw_A → Prop} {px : String → xw_A → Prop} {h : xw_A} {y0 : Int32} (w_27 : narrow .boolean (.int y0) = .int y0) (kr : pr (some (.int y0)) h) : xw G m_Question_beginsDeeper F L bc bs pr px 27 [none, none] [.int y0] h := by
  exact x_zret d_Question_beginsDeeper_27 rfl w_27 kr
theorem s_Question_kind_0 {G : xw_G} {F L bc bs : Nat} {pr : Option Value → xw_A → Prop} {px : String → xw_A → Prop} {h : xw_A} {a0 : Nat} {tokens_a0 : Option Nat} {phrases_a0 : Option Nat} {nodes_a0 : Option Nat} {phraseCount_a0 : Int32} {nodeCount_a0 : Int32} {wrongPlace_a0 : Int32} {parts_a0 : Nat} {letters_a0 : Option Nat} {at_a0 : Int32} {kinds_parts_a0 : Nat} {starts_parts_a0 : Option Nat} {ends_parts_a0 : Option Nat} {letters_parts_a0 : Option Nat} {length_parts_a0 : Int32} {n_kinds_parts_a0 : Nat} {f_kinds_parts_a0 : Nat → Int32} (e_a0 : h a0 = some (.inr (5, [va_rf tokens_a0, va_rf phrases_a0, va_rf nodes_a0, .int phraseCount_a0, .int nodeCount_a0, .int wrongPlace_a0, .ref parts_a0, va_rf letters_a0, .int at_a0]))) (e_parts_a0 : h parts_a0 = some (.inr (3, [.ref kinds_parts_a0, va_rf starts_parts_a0, va_rf ends_parts_a0, va_rf letters_parts_a0, .int length_parts_a0]))) (e_kinds_parts_a0 : h kinds_parts_a0 = some (.inl (0, n_kinds_parts_a0, .inl f_kinds_parts_a0))) (i_11 : vp_in at_a0 n_kinds_parts_a0) (kr : pr (some (.int (f_kinds_parts_a0 at_a0.toNatClampNeg))) h) : xw G m_Question_kind F L bc bs pr px 0 [some (.ref a0)] [] h := by
  refine x_aload_n d_Question_kind_0 rfl rfl ?_
  refine x_get d_Question_kind_1 f_Question_35 e_a0 rfl ?_
  refine x_get d_Question_kind_4 f_Question_77 e_parts_a0 rfl ?_
  refine x_aload_n d_Question_kind_7 rfl rfl ?_
  refine x_get d_Question_kind_8 f_Question_49 e_a0 rfl ?_
  refine x_iald d_Question_kind_11 e_kinds_parts_a0 i_11 ?_
  exact x_iret d_Question_kind_12 rfl kr
theorem s_Question_refuse_0 {G : xw_G} {F L bc bs : Nat} {pr : Option Value → xw_A → Prop} {px : String → xw_A → Prop} {h : xw_A} {a0 : Nat} {tokens_a0 : Option Nat} {phrases_a0 : Option Nat} {nodes_a0 : Option Nat} {phraseCount_a0 : Int32} {nodeCount_a0 : Int32} {wrongPlace_a0 : Int32} {parts_a0 : Nat} {letters_a0 : Option Nat} {at_a0 : Int32} {kinds_parts_a0 : Option Nat} {starts_parts_a0 : Nat} {ends_parts_a0 : Option Nat} {letters_parts_a0 : Option Nat} {length_parts_a0 : Int32} {n_starts_parts_a0 : Nat} {f_starts_parts_a0 : Nat → Int32} (e_a0 : h a0 = some (.inr (5, [va_rf tokens_a0, va_rf phrases_a0, va_rf nodes_a0, .int phraseCount_a0, .int nodeCount_a0, .int wrongPlace_a0, .ref parts_a0, va_rf letters_a0, .int at_a0]))) (e_parts_a0 : h parts_a0 = some (.inr (3, [va_rf kinds_parts_a0, .ref starts_parts_a0, va_rf ends_parts_a0, va_rf letters_parts_a0, .int length_parts_a0]))) (e_starts_parts_a0 : h starts_parts_a0 = some (.inl (0, n_starts_parts_a0, .inl f_starts_parts_a0))) (i_12 : vp_in at_a0 n_starts_parts_a0) (kr : pr (some (.null)) (xw_up h a0 (.inr (5, [va_rf tokens_a0, va_rf phrases_a0, va_rf nodes_a0, .int phraseCount_a0, .int nodeCount_a0, .int (f_starts_parts_a0 at_a0.toNatClampNeg), .ref parts_a0, va_rf letters_a0, .int at_a0])))) : xw G m_Question_refuse F L bc bs pr px 0 [some (.ref a0)] [] h := by
  refine x_aload_n d_Question_refuse_0 rfl rfl ?_
  refine x_aload_n d_Question_refuse_1 rfl rfl ?_
  refine x_get d_Question_refuse_2 f_Question_35 e_a0 rfl ?_
  refine x_get d_Question_refuse_5 f_Question_81 e_parts_a0 rfl ?_
  refine x_aload_n d_Question_refuse_8 rfl rfl ?_
  refine x_get d_Question_refuse_9 f_Question_49 e_a0 rfl ?_
  refine x_iald d_Question_refuse_12 e_starts_parts_a0 i_12 ?_
  refine x_put (ty := .int) d_Question_refuse_13 f_Question_62 fw_Question_5.1 fw_Question_5.2 rfl rfl (Nat.le_of_ble_eq_true rfl) e_a0 ?_
  show xw G m_Question_refuse F L bc bs pr px 16 [some (.ref a0)] [] (xw_up h a0 (.inr (5, [va_rf tokens_a0, va_rf phrases_a0, va_rf nodes_a0, .int phraseCount_a0, .int nodeCount_a0, .int (f_starts_parts_a0 at_a0.toNatClampNeg), .ref parts_a0, va_rf letters_a0, .int at_a0])))
  refine x_null d_Question_refuse_16 ?_
  exact x_aret d_Question_refuse_17 rfl (Or.inl ⟨_, rfl⟩) (Or.inl rfl) kr
theorem s_Question_deeper_0 {G : xw_G} {F L bc bs : Nat} {pr : Option Value → xw_A → Prop} {px : String → xw_A → Prop} {h : xw_A} {a0 : Nat} {x1 : Int32} {x2 : Int32}  (k : xw G m_Question_deeper F L bc bs pr px 3 [some (.ref a0), some (.int x1), some (.int x2), none, none, none] [.int 9, .ref a0] h) : xw G m_Question_deeper F L bc bs pr px 0 [some (.ref a0), some (.int x1), some (.int x2), none, none, none] [] h := by
  refine x_aload_n d_Question_deeper_0 rfl rfl ?_
  refine x_bipush (v := 9) d_Question_deeper_1 (by decide) ?_
  exact k
theorem s_Question_deeper_6 {G : xw_G} {F L bc bs : Nat} {pr : Option Value → xw_A → Prop} {px : String → xw_A → Prop} {h : xw_A} {a0 : Nat} {x1 : Int32} {x2 : Int32} {y0 : Int32}  (kt : y0 = 0 → xw G m_Question_deeper F L bc bs pr px 39 [some (.ref a0), some (.int x1), some (.int x2), none, none, none] [] h) (kf : ¬ y0 = 0 → xw G m_Question_deeper F L bc bs pr px 9 [some (.ref a0), some (.int x1), some (.int x2), none, none, none] [] h) : xw G m_Question_deeper F L bc bs pr px 6 [some (.ref a0), some (.int x1), some (.int x2), none, none, none] [.int y0] h := by
  refine x_if_eq (tgt := 39) d_Question_deeper_6 (by decide) (fun hc => ?_) (fun hc => ?_)
  · exact kt hc
  · exact kf hc
theorem s_Question_deeper_9 {G : xw_G} {F L bc bs : Nat} {pr : Option Value → xw_A → Prop} {px : String → xw_A → Prop} {h : xw_A} {a0 : Nat} {x1 : Int32} {x2 : Int32}  (k : xw G m_Question_deeper F L bc bs pr px 13 [some (.ref a0), some (.int x1), some (.int x2), none, none, none] [.int x2, .int x1, .int 5, .ref a0] h) : xw G m_Question_deeper F L bc bs pr px 9 [some (.ref a0), some (.int x1), some (.int x2), none, none, none] [] h := by
  refine x_aload_n d_Question_deeper_9 rfl rfl ?_
  refine x_iconst (v := 5) d_Question_deeper_10 (by decide) ?_
  refine x_iload_n d_Question_deeper_11 rfl rfl ?_
  refine x_iload_n d_Question_deeper_12 rfl rfl ?_
  exact k
theorem s_Question_deeper_16 {G : xw_G} {F L bc bs : Nat} {pr : Option Value → xw_A → Prop} {px : String → xw_A → Prop} {h : xw_A} {a0 : Nat} {s0 : Option Nat}  (kn : s0 = none → xw G m_Question_deeper F L bc bs pr px 30 [none, none, none, some (va_rf s0), none, none] [] h) (ks : ∀ a9 : Nat, s0 = some a9 → xw G m_Question_deeper F L bc bs pr px 21 [some (.ref a0), none, none, some (va_rf s0), none, none] [] h) : xw G m_Question_deeper F L bc bs pr px 16 [some (.ref a0), none, none, none, none, none] [va_rf s0] h := by
  refine x_astoreq_n d_Question_deeper_16 rfl (by decide) trivial ?_
  show xw G m_Question_deeper F L bc bs pr px 17 [some (.ref a0), none, none, some (va_rf s0), none, none] [] h
  refine x_aloadq_n d_Question_deeper_17 rfl rfl ?_
  refine x_ifnullq (tgt := 30) d_Question_deeper_18 (by decide) (fun hc => ?_) (fun a9 hc => ?_)
  · exact x_le (lv' := [none, none, none, some (va_rf s0), none, none]) (xw_le_n (xw_le_n (xw_le_n (xw_le_s (xw_le_n (xw_le_n xw_le_e)))))) (kn hc)
  · exact ks a9 hc
theorem s_Question_deeper_21 {G : xw_G} {F L bc bs : Nat} {pr : Option Value → xw_A → Prop} {px : String → xw_A → Prop} {h : xw_A} {a0 : Nat} {r3 : Option Nat}  (k : xw G m_Question_deeper F L bc bs pr px 24 [some (.ref a0), none, none, some (va_rf r3), none, none] [.int 10, .ref a0] h) : xw G m_Question_deeper F L bc bs pr px 21 [some (.ref a0), none, none, some (va_rf r3), none, none] [] h := by
  refine x_aload_n d_Question_deeper_21 rfl rfl ?_
  refine x_bipush (v := 10) d_Question_deeper_22 (by decide) ?_
  exact k
theorem s_Question_deeper_27 {G : xw_G} {F L bc bs : Nat} {pr : Option Value → xw_A → Prop} {px : String → xw_A → Prop} {h : xw_A} {a0 : Nat} {r3 : Option Nat} {y0 : Int32}  (kt : y0 = 0 → xw G m_Question_deeper F L bc bs pr px 34 [some (.ref a0), none, none, none, none, none] [] h) (kf : ¬ y0 = 0 → xw G m_Question_deeper F L bc bs pr px 30 [none, none, none, some (va_rf r3), none, none] [] h) : xw G m_Question_deeper F L bc bs pr px 27 [some (.ref a0), none, none, some (va_rf r3), none, none] [.int y0] h := by
  refine x_if_eq (tgt := 34) d_Question_deeper_27 (by decide) (fun hc => ?_) (fun hc => ?_)
  · exact x_le (lv' := [some (.ref a0), none, none, none, none, none]) (xw_le_s (xw_le_n (xw_le_n (xw_le_n (xw_le_n (xw_le_n xw_le_e)))))) (kt hc)
  · exact x_le (lv' := [none, none, none, some (va_rf r3), none, none]) (xw_le_n (xw_le_n (xw_le_n (xw_le_s (xw_le_n (xw_le_n xw_le_e)))))) (kf hc)
theorem s_Question_deeper_30 {G : xw_G} {F L bc bs : Nat} {pr : Option Value → xw_A → Prop} {px : String → xw_A → Prop} {h : xw_A} {r3 : Option Nat}  (k : xw G m_Question_deeper F L bc bs pr px 38 [none, none, none, none, none, none] [va_rf r3] h) : xw G m_Question_deeper F L bc bs pr px 30 [none, none, none, some (va_rf r3), none, none] [] h := by
  refine x_aloadq_n d_Question_deeper_30 rfl rfl ?_
  refine x_goto (tgt := 38) d_Question_deeper_31 (by decide) ?_
  exact x_le (lv' := [none, none, none, none, none, none]) (xw_le_n (xw_le_n (xw_le_n (xw_le_n (xw_le_n (xw_le_n xw_le_e)))))) (k)
theorem s_Question_deeper_34 {G : xw_G} {F L bc bs : Nat} {pr : Option Value → xw_A → Prop} {px : String → xw_A → Prop} {h : xw_A} {a0 : Nat}  (k : xw G m_Question_deeper F L bc bs pr px 35 [some (.ref a0), none, none, none, none, none] [.ref a0] h) : xw G m_Question_deeper F L bc bs pr px 34 [some (.ref a0), none, none, none, none, none] [] h := by
  refine x_aload_n d_Question_deeper_34 rfl rfl ?_
  exact k
theorem s_Question_deeper_38 {G : xw_G} {F L bc bs : Nat} {pr : Option Value → xw_A → Prop} {px : String → xw_A → Prop} {h : xw_A} {s0 : Option Nat}  (kr : pr (some (va_rf s0)) h) : xw G m_Question_deeper F L bc bs pr px 38 [none, none, none, none, none, none] [va_rf s0] h := by
  exact x_aret d_Question_deeper_38 rfl (Or.inl ⟨_, rfl⟩) (va_rf_or _) kr
theorem s_Question_deeper_39 {G : xw_G} {F L bc bs : Nat} {pr : Option Value → xw_A → Prop} {px : String → xw_A → Prop} {h : xw_A} {a0 : Nat} {x1 : Int32} {x2 : Int32}  (k : xw G m_Question_deeper F L bc bs pr px 42 [some (.ref a0), some (.int x1), some (.int x2), none, none, none] [.int 11, .ref a0] h) : xw G m_Question_deeper F L bc bs pr px 39 [some (.ref a0), some (.int x1), some (.int x2), none, none, none] [] h := by
  refine x_aload_n d_Question_deeper_39 rfl rfl ?_
  refine x_bipush (v := 11) d_Question_deeper_40 (by decide) ?_
  exact k
theorem s_Question_deeper_45 {G : xw_G} {F L bc bs : Nat} {pr : Option Value → xw_A → Prop} {px : String → xw_A → Prop} {h : xw_A} {a0 : Nat} {x1 : Int32} {x2 : Int32} {y0 : Int32}  (k : xw G m_Question_deeper F L bc bs pr px 47 [some (.ref a0), some (.int x1), some (.int x2), some (.int y0), none, none] [.ref a0] h) : xw G m_Question_deeper F L bc bs pr px 45 [some (.ref a0), some (.int x1), some (.int x2), none, none, none] [.int y0] h := by
  refine x_istore_n d_Question_deeper_45 rfl (by decide) rfl ?_
  show xw G m_Question_deeper F L bc bs pr px 46 [some (.ref a0), some (.int x1), some (.int x2), some (.int y0), none, none] [] h
  refine x_aload_n d_Question_deeper_46 rfl rfl ?_
  exact k
theorem s_Question_deeper_50 {G : xw_G} {F L bc bs : Nat} {pr : Option Value → xw_A → Prop} {px : String → xw_A → Prop} {h : xw_A} {a0 : Nat} {x1 : Int32} {x2 : Int32} {x3 : Int32} {y0 : Int32}  (kt : ¬ y0 = 3 → xw G m_Question_deeper F L bc bs pr px 68 [some (.ref a0), some (.int x1), some (.int x2), some (.int x3), none, none] [] h) (kf : y0 = 3 → xw G m_Question_deeper F L bc bs pr px 54 [some (.ref a0), some (.int x1), some (.int x2), some (.int x3), none, none] [] h) : xw G m_Question_deeper F L bc bs pr px 50 [some (.ref a0), some (.int x1), some (.int x2), some (.int x3), none, none] [.int y0] h := by
  refine x_iconst (v := 3) d_Question_deeper_50 (by decide) ?_
  refine x_icmp_ne (tgt := 68) d_Question_deeper_51 (by decide) (fun hc => ?_) (fun hc => ?_)
  · exact kt hc
  · exact kf hc
theorem s_Question_deeper_54 {G : xw_G} {F L bc bs : Nat} {pr : Option Value → xw_A → Prop} {px : String → xw_A → Prop} {h : xw_A} {a0 : Nat} {x1 : Int32} {x2 : Int32} {x3 : Int32} {tokens_a0 : Option Nat} {phrases_a0 : Option Nat} {nodes_a0 : Option Nat} {phraseCount_a0 : Int32} {nodeCount_a0 : Int32} {wrongPlace_a0 : Int32} {parts_a0 : Option Nat} {letters_a0 : Option Nat} {at_a0 : Int32} (e_a0 : h a0 = some (.inr (5, [va_rf tokens_a0, va_rf phrases_a0, va_rf nodes_a0, .int phraseCount_a0, .int nodeCount_a0, .int wrongPlace_a0, va_rf parts_a0, va_rf letters_a0, .int at_a0]))) (k : xw G m_Question_deeper F L bc bs pr px 62 [some (.ref a0), some (.int x1), some (.int x2), some (.int x3), none, none] [.int at_a0, va_rf parts_a0] h) : xw G m_Question_deeper F L bc bs pr px 54 [some (.ref a0), some (.int x1), some (.int x2), some (.int x3), none, none] [] h := by
  refine x_aload_n d_Question_deeper_54 rfl rfl ?_
  refine x_get d_Question_deeper_55 f_Question_35 e_a0 rfl ?_
  refine x_aload_n d_Question_deeper_58 rfl rfl ?_
  refine x_get d_Question_deeper_59 f_Question_49 e_a0 rfl ?_
  exact k
theorem s_Question_deeper_65 {G : xw_G} {F L bc bs : Nat} {pr : Option Value → xw_A → Prop} {px : String → xw_A → Prop} {h : xw_A} {a0 : Nat} {x1 : Int32} {x2 : Int32} {x3 : Int32} {y0 : Int32}  (k : xw G m_Question_deeper F L bc bs pr px 69 [some (.ref a0), some (.int x1), some (.int x2), some (.int x3), none, none] [.int y0] h) : xw G m_Question_deeper F L bc bs pr px 65 [some (.ref a0), some (.int x1), some (.int x2), some (.int x3), none, none] [.int y0] h := by
  refine x_goto (tgt := 69) d_Question_deeper_65 (by decide) ?_
  exact k
theorem s_Question_deeper_68 {G : xw_G} {F L bc bs : Nat} {pr : Option Value → xw_A → Prop} {px : String → xw_A → Prop} {h : xw_A} {a0 : Nat} {x1 : Int32} {x2 : Int32} {x3 : Int32}  (k : xw G m_Question_deeper F L bc bs pr px 69 [some (.ref a0), some (.int x1), some (.int x2), some (.int x3), none, none] [.int ((-1))] h) : xw G m_Question_deeper F L bc bs pr px 68 [some (.ref a0), some (.int x1), some (.int x2), some (.int x3), none, none] [] h := by
  refine x_iconst (v := -1) d_Question_deeper_68 (by decide) ?_
  exact k
theorem s_Question_deeper_69 {G : xw_G} {F L bc bs : Nat} {pr : Option Value → xw_A → Prop} {px : String → xw_A → Prop} {h : xw_A} {a0 : Nat} {x1 : Int32} {x2 : Int32} {x3 : Int32} {y0 : Int32}  (kt : 0 ≤ y0 → xw G m_Question_deeper F L bc bs pr px 81 [some (.ref a0), some (.int x1), some (.int x2), some (.int x3), some (.int y0), none] [] h) (kf : ¬ 0 ≤ y0 → xw G m_Question_deeper F L bc bs pr px 76 [some (.ref a0), none, none, none, none, none] [] h) : xw G m_Question_deeper F L bc bs pr px 69 [some (.ref a0), some (.int x1), some (.int x2), some (.int x3), none, none] [.int y0] h := by
  refine x_istore d_Question_deeper_69 (by decide) rfl ?_
  show xw G m_Question_deeper F L bc bs pr px 71 [some (.ref a0), some (.int x1), some (.int x2), some (.int x3), some (.int y0), none] [] h
  refine x_iload d_Question_deeper_71 rfl ?_
  refine x_if_ge (tgt := 81) d_Question_deeper_73 (by decide) (fun hc => ?_) (fun hc => ?_)
  · exact kt hc
  · exact x_le (lv' := [some (.ref a0), none, none, none, none, none]) (xw_le_s (xw_le_n (xw_le_n (xw_le_n (xw_le_n (xw_le_n xw_le_e)))))) (kf hc)
theorem s_Question_deeper_76 {G : xw_G} {F L bc bs : Nat} {pr : Option Value → xw_A → Prop} {px : String → xw_A → Prop} {h : xw_A} {a0 : Nat}  (k : xw G m_Question_deeper F L bc bs pr px 77 [some (.ref a0), none, none, none, none, none] [.ref a0] h) : xw G m_Question_deeper F L bc bs pr px 76 [some (.ref a0), none, none, none, none, none] [] h := by
  refine x_aload_n d_Question_deeper_76 rfl rfl ?_
  exact k
theorem s_Question_deeper_80 {G : xw_G} {F L bc bs : Nat} {pr : Option Value → xw_A → Prop} {px : String → xw_A → Prop} {h : xw_A} {s0 : Option Nat}  (kr : pr (some (va_rf s0)) h) : xw G m_Question_deeper F L bc bs pr px 80 [none, none, none, none, none, none] [va_rf s0] h := by
  exact x_aret d_Question_deeper_80 rfl (Or.inl ⟨_, rfl⟩) (va_rf_or _) kr
theorem s_Question_deeper_81 {G : xw_G} {F L bc bs : Nat} {pr : Option Value → xw_A → Prop} {px : String → xw_A → Prop} {h : xw_A} {a0 : Nat} {x1 : Int32} {x2 : Int32} {x3 : Int32} {x4 : Int32}  (kt : x3 = 0 → xw G m_Question_deeper F L bc bs pr px 93 [some (.ref a0), some (.int x1), some (.int x2), none, some (.int x4), none] [.int 1] h) (kf : ¬ x3 = 0 → xw G m_Question_deeper F L bc bs pr px 86 [some (.ref a0), some (.int x1), some (.int x2), none, some (.int x4), none] [.int 1] h) : xw G m_Question_deeper F L bc bs pr px 81 [some (.ref a0), some (.int x1), some (.int x2), some (.int x3), some (.int x4), none] [] h := by
  refine x_iconst (v := 1) d_Question_deeper_81 (by decide) ?_
  refine x_iload_n d_Question_deeper_82 rfl rfl ?_
  refine x_if_eq (tgt := 93) d_Question_deeper_83 (by decide) (fun hc => ?_) (fun hc => ?_)
  · exact x_le (lv' := [some (.ref a0), some (.int x1), some (.int x2), none, some (.int x4), none]) (xw_le_s (xw_le_s (xw_le_s (xw_le_n (xw_le_s (xw_le_n xw_le_e)))))) (kt hc)
  · exact x_le (lv' := [some (.ref a0), some (.int x1), some (.int x2), none, some (.int x4), none]) (xw_le_s (xw_le_s (xw_le_s (xw_le_n (xw_le_s (xw_le_n xw_le_e)))))) (kf hc)
theorem s_Question_deeper_86 {G : xw_G} {F L bc bs : Nat} {pr : Option Value → xw_A → Prop} {px : String → xw_A → Prop} {h : xw_A} {a0 : Nat} {x1 : Int32} {x2 : Int32} {x4 : Int32} {y0 : Int32}  (k : xw G m_Question_deeper F L bc bs pr px 95 [some (.ref a0), some (.int x1), some (.int x2), none, none, none] [.int (1 - x4), .int y0] h) : xw G m_Question_deeper F L bc bs pr px 86 [some (.ref a0), some (.int x1), some (.int x2), none, some (.int x4), none] [.int y0] h := by
  refine x_iconst (v := 1) d_Question_deeper_86 (by decide) ?_
  refine x_iload d_Question_deeper_87 rfl ?_
  refine x_isub d_Question_deeper_89 ?_
  refine x_goto (tgt := 95) d_Question_deeper_90 (by decide) ?_
  exact x_le (lv' := [some (.ref a0), some (.int x1), some (.int x2), none, none, none]) (xw_le_s (xw_le_s (xw_le_s (xw_le_n (xw_le_n (xw_le_n xw_le_e)))))) (k)
theorem s_Question_deeper_93 {G : xw_G} {F L bc bs : Nat} {pr : Option Value → xw_A → Prop} {px : String → xw_A → Prop} {h : xw_A} {a0 : Nat} {x1 : Int32} {x2 : Int32} {x4 : Int32} {y0 : Int32}  (k : xw G m_Question_deeper F L bc bs pr px 95 [some (.ref a0), some (.int x1), some (.int x2), none, none, none] [.int x4, .int y0] h) : xw G m_Question_deeper F L bc bs pr px 93 [some (.ref a0), some (.int x1), some (.int x2), none, some (.int x4), none] [.int y0] h := by
  refine x_iload d_Question_deeper_93 rfl ?_
  exact x_le (lv' := [some (.ref a0), some (.int x1), some (.int x2), none, none, none]) (xw_le_s (xw_le_s (xw_le_s (xw_le_n (xw_le_n (xw_le_n xw_le_e)))))) (k)
theorem s_Question_deeper_95 {G : xw_G} {F L bc bs : Nat} {pr : Option Value → xw_A → Prop} {px : String → xw_A → Prop} {h : xw_A} {a0 : Nat} {x1 : Int32} {x2 : Int32} {y0 : Int32} {y1 : Int32} {tokens_a0 : Option Nat} {phrases_a0 : Option Nat} {nodes_a0 : Option Nat} {phraseCount_a0 : Int32} {nodeCount_a0 : Int32} {wrongPlace_a0 : Int32} {parts_a0 : Option Nat} {letters_a0 : Option Nat} {at_a0 : Int32} (e_a0 : h a0 = some (.inr (5, [va_rf tokens_a0, va_rf phrases_a0, va_rf nodes_a0, .int phraseCount_a0, .int nodeCount_a0, .int wrongPlace_a0, va_rf parts_a0, va_rf letters_a0, .int at_a0]))) (k : xw G m_Question_deeper F L bc bs pr px 114 [some (.ref a0), some (.int x1), some (.int x2), none, none, some (.int (y1 <<< (y0 &&& 31)))] [.int x2, .int (x1 &&& (y1 <<< (y0 &&& 31))), .ref a0] (xw_up h a0 (.inr (5, [va_rf tokens_a0, va_rf phrases_a0, va_rf nodes_a0, .int phraseCount_a0, .int nodeCount_a0, .int wrongPlace_a0, va_rf parts_a0, va_rf letters_a0, .int (at_a0 + 2)])))) : xw G m_Question_deeper F L bc bs pr px 95 [some (.ref a0), some (.int x1), some (.int x2), none, none, none] [.int y0, .int y1] h := by
  refine x_ishl d_Question_deeper_95 ?_
  refine x_istore d_Question_deeper_96 (by decide) trivial ?_
  show xw G m_Question_deeper F L bc bs pr px 98 [some (.ref a0), some (.int x1), some (.int x2), none, none, some (.int (y1 <<< (y0 &&& 31)))] [] h
  refine x_aload_n d_Question_deeper_98 rfl rfl ?_
  refine x_dup d_Question_deeper_99 rfl ?_
  refine x_get d_Question_deeper_100 f_Question_49 e_a0 rfl ?_
  refine x_iconst (v := 2) d_Question_deeper_103 (by decide) ?_
  refine x_iadd d_Question_deeper_104 ?_
  refine x_put (ty := .int) d_Question_deeper_105 f_Question_49 fw_Question_8.1 fw_Question_8.2 rfl rfl (Nat.le_of_ble_eq_true rfl) e_a0 ?_
  show xw G m_Question_deeper F L bc bs pr px 108 [some (.ref a0), some (.int x1), some (.int x2), none, none, some (.int (y1 <<< (y0 &&& 31)))] [] (xw_up h a0 (.inr (5, [va_rf tokens_a0, va_rf phrases_a0, va_rf nodes_a0, .int phraseCount_a0, .int nodeCount_a0, .int wrongPlace_a0, va_rf parts_a0, va_rf letters_a0, .int (at_a0 + 2)])))
  refine x_aload_n d_Question_deeper_108 rfl rfl ?_
  refine x_iload_n d_Question_deeper_109 rfl rfl ?_
  refine x_iload d_Question_deeper_110 rfl ?_
  refine x_iand d_Question_deeper_112 ?_
  refine x_iload_n d_Question_deeper_113 rfl rfl ?_
  exact k
theorem s_Question_deeper_117 {G : xw_G} {F L bc bs : Nat} {pr : Option Value → xw_A → Prop} {px : String → xw_A → Prop} {h : xw_A} {s0 : Option Nat}  (kr : pr (some (va_rf s0)) h) : xw G m_Question_deeper F L bc bs pr px 117 [none, none, none, none, none, none] [va_rf s0] h := by
  exact x_aret d_Question_deeper_117 rfl (Or.inl ⟨_, rfl⟩) (va_rf_or _) kr
theorem s_Question_takes_0 {G : xw_G} {F L bc bs : Nat} {pr : Option Value → xw_A → Prop} {px : String → xw_A → Prop} {h : xw_A} {a0 : Nat} {x1 : Int32}  (k : xw G m_Question_takes F L bc bs pr px 1 [some (.ref a0), some (.int x1)] [.ref a0] h) : xw G m_Question_takes F L bc bs pr px 0 [some (.ref a0), some (.int x1)] [] h := by
  refine x_aload_n d_Question_takes_0 rfl rfl ?_
  exact k
theorem s_Question_takes_4 {G : xw_G} {F L bc bs : Nat} {pr : Option Value → xw_A → Prop} {px : String → xw_A → Prop} {h : xw_A} {a0 : Nat} {x1 : Int32} {y0 : Int32}  (kt : y0 = x1 → xw G m_Question_takes F L bc bs pr px 10 [some (.ref a0), none] [] h) (kf : ¬ y0 = x1 → xw G m_Question_takes F L bc bs pr px 8 [none, none] [] h) : xw G m_Question_takes F L bc bs pr px 4 [some (.ref a0), some (.int x1)] [.int y0] h := by
  refine x_iload_n d_Question_takes_4 rfl rfl ?_
  refine x_icmp_eq (tgt := 10) d_Question_takes_5 (by decide) (fun hc => ?_) (fun hc => ?_)
  · exact x_le (lv' := [some (.ref a0), none]) (xw_le_s (xw_le_n xw_le_e)) (kt hc)
  · exact x_le (lv' := [none, none]) (xw_le_n (xw_le_n xw_le_e)) (kf hc)
theorem s_Question_takes_8 {G : xw_G} {F L bc bs : Nat} {pr : Option Value → xw_A → Prop} {px : String → xw_A → Prop} {h : xw_A}   (kr : pr (some (.int 0)) h) : xw G m_Question_takes F L bc bs pr px 8 [none, none] [] h := by
  refine x_iconst (v := 0) d_Question_takes_8 (by decide) ?_
  exact x_zret d_Question_takes_9 rfl rfl kr
theorem s_Question_takes_10 {G : xw_G} {F L bc bs : Nat} {pr : Option Value → xw_A → Prop} {px : String → xw_A → Prop} {h : xw_A} {a0 : Nat} {tokens_a0 : Option Nat} {phrases_a0 : Option Nat} {nodes_a0 : Option Nat} {phraseCount_a0 : Int32} {nodeCount_a0 : Int32} {wrongPlace_a0 : Int32} {parts_a0 : Option Nat} {letters_a0 : Option Nat} {at_a0 : Int32} (e_a0 : h a0 = some (.inr (5, [va_rf tokens_a0, va_rf phrases_a0, va_rf nodes_a0, .int phraseCount_a0, .int nodeCount_a0, .int wrongPlace_a0, va_rf parts_a0, va_rf letters_a0, .int at_a0]))) (kr : pr (some (.int 1)) (xw_up h a0 (.inr (5, [va_rf tokens_a0, va_rf phrases_a0, va_rf nodes_a0, .int phraseCount_a0, .int nodeCount_a0, .int wrongPlace_a0, va_rf parts_a0, va_rf letters_a0, .int (at_a0 + 1)])))) : xw G m_Question_takes F L bc bs pr px 10 [some (.ref a0), none] [] h := by
  refine x_aload_n d_Question_takes_10 rfl rfl ?_
  refine x_dup d_Question_takes_11 rfl ?_
  refine x_get d_Question_takes_12 f_Question_49 e_a0 rfl ?_
  refine x_iconst (v := 1) d_Question_takes_15 (by decide) ?_
  refine x_iadd d_Question_takes_16 ?_
  refine x_put (ty := .int) d_Question_takes_17 f_Question_49 fw_Question_8.1 fw_Question_8.2 rfl rfl (Nat.le_of_ble_eq_true rfl) e_a0 ?_
  show xw G m_Question_takes F L bc bs pr px 20 [some (.ref a0), none] [] (xw_up h a0 (.inr (5, [va_rf tokens_a0, va_rf phrases_a0, va_rf nodes_a0, .int phraseCount_a0, .int nodeCount_a0, .int wrongPlace_a0, va_rf parts_a0, va_rf letters_a0, .int (at_a0 + 1)])))
  refine x_iconst (v := 1) d_Question_takes_20 (by decide) ?_
  exact x_zret d_Question_takes_21 rfl rfl kr
theorem s_Question_near_0 {G : xw_G} {F L bc bs : Nat} {pr : Option Value → xw_A → Prop} {px : String → xw_A → Prop} {h : xw_A} {a0 : Nat} {x1 : Int32}  (k : xw G m_Question_near F L bc bs pr px 3 [some (.ref a0), some (.int x1), none, none, none] [.int 9, .ref a0] h) : xw G m_Question_near F L bc bs pr px 0 [some (.ref a0), some (.int x1), none, none, none] [] h := by
  refine x_aload_n d_Question_near_0 rfl rfl ?_
  refine x_bipush (v := 9) d_Question_near_1 (by decide) ?_
  exact k
theorem s_Question_near_6 {G : xw_G} {F L bc bs : Nat} {pr : Option Value → xw_A → Prop} {px : String → xw_A → Prop} {h : xw_A} {a0 : Nat} {x1 : Int32} {y0 : Int32}  (kt : ¬ y0 = 0 → xw G m_Question_near F L bc bs pr px 14 [some (.ref a0), some (.int x1), none, none, none] [] h) (kf : y0 = 0 → xw G m_Question_near F L bc bs pr px 9 [some (.ref a0), none, none, none, none] [] h) : xw G m_Question_near F L bc bs pr px 6 [some (.ref a0), some (.int x1), none, none, none] [.int y0] h := by
  refine x_if_ne (tgt := 14) d_Question_near_6 (by decide) (fun hc => ?_) (fun hc => ?_)
  · exact kt hc
  · exact x_le (lv' := [some (.ref a0), none, none, none, none]) (xw_le_s (xw_le_n (xw_le_n (xw_le_n (xw_le_n xw_le_e))))) (kf hc)
theorem s_Question_near_9 {G : xw_G} {F L bc bs : Nat} {pr : Option Value → xw_A → Prop} {px : String → xw_A → Prop} {h : xw_A} {a0 : Nat}  (k : xw G m_Question_near F L bc bs pr px 10 [some (.ref a0), none, none, none, none] [.ref a0] h) : xw G m_Question_near F L bc bs pr px 9 [some (.ref a0), none, none, none, none] [] h := by
  refine x_aload_n d_Question_near_9 rfl rfl ?_
  exact k
theorem s_Question_near_13 {G : xw_G} {F L bc bs : Nat} {pr : Option Value → xw_A → Prop} {px : String → xw_A → Prop} {h : xw_A} {s0 : Option Nat}  (kr : pr (some (va_rf s0)) h) : xw G m_Question_near F L bc bs pr px 13 [none, none, none, none, none] [va_rf s0] h := by
  exact x_aret d_Question_near_13 rfl (Or.inl ⟨_, rfl⟩) (va_rf_or _) kr
theorem s_Question_near_14 {G : xw_G} {F L bc bs : Nat} {pr : Option Value → xw_A → Prop} {px : String → xw_A → Prop} {h : xw_A} {a0 : Nat} {x1 : Int32} {tokens_a0 : Option Nat} {phrases_a0 : Option Nat} {nodes_a0 : Option Nat} {phraseCount_a0 : Int32} {nodeCount_a0 : Int32} {wrongPlace_a0 : Int32} {parts_a0 : Option Nat} {letters_a0 : Option Nat} {at_a0 : Int32} (e_a0 : h a0 = some (.inr (5, [va_rf tokens_a0, va_rf phrases_a0, va_rf nodes_a0, .int phraseCount_a0, .int nodeCount_a0, .int wrongPlace_a0, va_rf parts_a0, va_rf letters_a0, .int at_a0]))) (k : xw G m_Question_near F L bc bs pr px 20 [some (.ref a0), some (.int x1), some (.int phraseCount_a0), none, none] [.ref a0] h) : xw G m_Question_near F L bc bs pr px 14 [some (.ref a0), some (.int x1), none, none, none] [] h := by
  refine x_aload_n d_Question_near_14 rfl rfl ?_
  refine x_get d_Question_near_15 f_Question_56 e_a0 rfl ?_
  refine x_istore_n d_Question_near_18 rfl (by decide) rfl ?_
  show xw G m_Question_near F L bc bs pr px 19 [some (.ref a0), some (.int x1), some (.int phraseCount_a0), none, none] [] h
  refine x_aload_n d_Question_near_19 rfl rfl ?_
  exact k
theorem s_Question_near_23 {G : xw_G} {F L bc bs : Nat} {pr : Option Value → xw_A → Prop} {px : String → xw_A → Prop} {h : xw_A} {a0 : Nat} {x1 : Int32} {x2 : Int32} {y0 : Int32}  (k : xw G m_Question_near F L bc bs pr px 27 [some (.ref a0), some (.int x1), some (.int x2), some (.int y0), some (.int 0)] [] h) : xw G m_Question_near F L bc bs pr px 23 [some (.ref a0), some (.int x1), some (.int x2), none, none] [.int y0] h := by
  refine x_istore_n d_Question_near_23 rfl (by decide) rfl ?_
  show xw G m_Question_near F L bc bs pr px 24 [some (.ref a0), some (.int x1), some (.int x2), some (.int y0), none] [] h
  refine x_iconst (v := 0) d_Question_near_24 (by decide) ?_
  refine x_istore d_Question_near_25 (by decide) rfl ?_
  show xw G m_Question_near F L bc bs pr px 27 [some (.ref a0), some (.int x1), some (.int x2), some (.int y0), some (.int 0)] [] h
  exact k
theorem s_Question_near_27 {G : xw_G} {F L bc bs : Nat} {pr : Option Value → xw_A → Prop} {px : String → xw_A → Prop} {h : xw_A} {a0 : Nat} {x1 : Int32} {x2 : Int32} {x3 : Int32} {x4 : Int32}  (kt : 96 ≤ x4 → xw G m_Question_near F L bc bs pr px 56 [some (.ref a0), some (.int x1), some (.int x2), some (.int x3), none] [] h) (kf : ¬ 96 ≤ x4 → xw G m_Question_near F L bc bs pr px 34 [some (.ref a0), some (.int x1), some (.int x2), some (.int x3), some (.int x4)] [] h) : xw G m_Question_near F L bc bs pr px 27 [some (.ref a0), some (.int x1), some (.int x2), some (.int x3), some (.int x4)] [] h := by
  refine x_iload d_Question_near_27 rfl ?_
  refine x_bipush (v := 96) d_Question_near_29 (by decide) ?_
  refine x_icmp_ge (tgt := 56) d_Question_near_31 (by decide) (fun hc => ?_) (fun hc => ?_)
  · exact x_le (lv' := [some (.ref a0), some (.int x1), some (.int x2), some (.int x3), none]) (xw_le_s (xw_le_s (xw_le_s (xw_le_s (xw_le_n xw_le_e))))) (kt hc)
  · exact kf hc
theorem s_Question_near_34 {G : xw_G} {F L bc bs : Nat} {pr : Option Value → xw_A → Prop} {px : String → xw_A → Prop} {h : xw_A} {a0 : Nat} {x1 : Int32} {x2 : Int32} {x3 : Int32} {x4 : Int32}  (kt : x3 = 0 → xw G m_Question_near F L bc bs pr px 56 [some (.ref a0), some (.int x1), some (.int x2), some (.int x3), none] [] h) (kf : ¬ x3 = 0 → xw G m_Question_near F L bc bs pr px 38 [some (.ref a0), some (.int x1), some (.int x2), some (.int x3), some (.int x4)] [] h) : xw G m_Question_near F L bc bs pr px 34 [some (.ref a0), some (.int x1), some (.int x2), some (.int x3), some (.int x4)] [] h := by
  refine x_iload_n d_Question_near_34 rfl rfl ?_
  refine x_if_eq (tgt := 56) d_Question_near_35 (by decide) (fun hc => ?_) (fun hc => ?_)
  · exact x_le (lv' := [some (.ref a0), some (.int x1), some (.int x2), some (.int x3), none]) (xw_le_s (xw_le_s (xw_le_s (xw_le_s (xw_le_n xw_le_e))))) (kt hc)
  · exact kf hc
theorem s_Question_near_38 {G : xw_G} {F L bc bs : Nat} {pr : Option Value → xw_A → Prop} {px : String → xw_A → Prop} {h : xw_A} {a0 : Nat} {x1 : Int32} {x2 : Int32} {x3 : Int32} {x4 : Int32}  (k : xw G m_Question_near F L bc bs pr px 39 [some (.ref a0), some (.int x1), some (.int x2), some (.int x3), some (.int x4)] [.ref a0] h) : xw G m_Question_near F L bc bs pr px 38 [some (.ref a0), some (.int x1), some (.int x2), some (.int x3), some (.int x4)] [] h := by
  refine x_aload_n d_Question_near_38 rfl rfl ?_
  exact k
theorem s_Question_near_42 {G : xw_G} {F L bc bs : Nat} {pr : Option Value → xw_A → Prop} {px : String → xw_A → Prop} {h : xw_A} {a0 : Nat} {x1 : Int32} {x2 : Int32} {x3 : Int32} {x4 : Int32} {y0 : Int32}  (kt : y0 = 0 → xw G m_Question_near F L bc bs pr px 56 [some (.ref a0), some (.int x1), some (.int x2), some (.int x3), none] [] h) (kf : ¬ y0 = 0 → xw G m_Question_near F L bc bs pr px 45 [some (.ref a0), some (.int x1), some (.int x2), none, some (.int x4)] [] h) : xw G m_Question_near F L bc bs pr px 42 [some (.ref a0), some (.int x1), some (.int x2), some (.int x3), some (.int x4)] [.int y0] h := by
  refine x_if_eq (tgt := 56) d_Question_near_42 (by decide) (fun hc => ?_) (fun hc => ?_)
  · exact x_le (lv' := [some (.ref a0), some (.int x1), some (.int x2), some (.int x3), none]) (xw_le_s (xw_le_s (xw_le_s (xw_le_s (xw_le_n xw_le_e))))) (kt hc)
  · exact x_le (lv' := [some (.ref a0), some (.int x1), some (.int x2), none, some (.int x4)]) (xw_le_s (xw_le_s (xw_le_s (xw_le_n (xw_le_s xw_le_e))))) (kf hc)
theorem s_Question_near_45 {G : xw_G} {F L bc bs : Nat} {pr : Option Value → xw_A → Prop} {px : String → xw_A → Prop} {h : xw_A} {a0 : Nat} {x1 : Int32} {x2 : Int32} {x4 : Int32}  (k : xw G m_Question_near F L bc bs pr px 46 [some (.ref a0), some (.int x1), some (.int x2), none, some (.int x4)] [.ref a0] h) : xw G m_Question_near F L bc bs pr px 45 [some (.ref a0), some (.int x1), some (.int x2), none, some (.int x4)] [] h := by
  refine x_aload_n d_Question_near_45 rfl rfl ?_
  exact k
theorem s_Question_near_49 {G : xw_G} {F L bc bs : Nat} {pr : Option Value → xw_A → Prop} {px : String → xw_A → Prop} {h : xw_A} {a0 : Nat} {x1 : Int32} {x2 : Int32} {x4 : Int32} {y0 : Int32}  (k : xw G m_Question_near F L bc bs pr px 27 [some (.ref a0), some (.int x1), some (.int x2), some (.int y0), some (.int (x4 + 1))] [] h) : xw G m_Question_near F L bc bs pr px 49 [some (.ref a0), some (.int x1), some (.int x2), none, some (.int x4)] [.int y0] h := by
  refine x_istore_n d_Question_near_49 rfl (by decide) rfl ?_
  show xw G m_Question_near F L bc bs pr px 50 [some (.ref a0), some (.int x1), some (.int x2), some (.int y0), some (.int x4)] [] h
  refine x_iinc (v := x4 + 1) d_Question_near_50 rfl (by rfl) (by decide) rfl ?_
  show xw G m_Question_near F L bc bs pr px 53 [some (.ref a0), some (.int x1), some (.int x2), some (.int y0), some (.int (x4 + 1))] [] h
  refine x_goto (tgt := 27) d_Question_near_53 (by decide) ?_
  exact k
theorem s_Question_near_56 {G : xw_G} {F L bc bs : Nat} {pr : Option Value → xw_A → Prop} {px : String → xw_A → Prop} {h : xw_A} {a0 : Nat} {x1 : Int32} {x2 : Int32} {x3 : Int32}  (kt : ¬ x3 = 0 → xw G m_Question_near F L bc bs pr px 62 [some (.ref a0), some (.int x1), some (.int x2), none, none] [] h) (kf : x3 = 0 → xw G m_Question_near F L bc bs pr px 60 [none, none, none, none, none] [] h) : xw G m_Question_near F L bc bs pr px 56 [some (.ref a0), some (.int x1), some (.int x2), some (.int x3), none] [] h := by
  refine x_iload_n d_Question_near_56 rfl rfl ?_
  refine x_if_ne (tgt := 62) d_Question_near_57 (by decide) (fun hc => ?_) (fun hc => ?_)
  · exact x_le (lv' := [some (.ref a0), some (.int x1), some (.int x2), none, none]) (xw_le_s (xw_le_s (xw_le_s (xw_le_n (xw_le_n xw_le_e))))) (kt hc)
  · exact x_le (lv' := [none, none, none, none, none]) (xw_le_n (xw_le_n (xw_le_n (xw_le_n (xw_le_n xw_le_e))))) (kf hc)
theorem s_Question_near_60 {G : xw_G} {F L bc bs : Nat} {pr : Option Value → xw_A → Prop} {px : String → xw_A → Prop} {h : xw_A}   (kr : pr (some (.null)) h) : xw G m_Question_near F L bc bs pr px 60 [none, none, none, none, none] [] h := by
  refine x_null d_Question_near_60 ?_
  exact x_aret d_Question_near_61 rfl (Or.inl ⟨_, rfl⟩) (Or.inl rfl) kr
theorem s_Question_near_62 {G : xw_G} {F L bc bs : Nat} {pr : Option Value → xw_A → Prop} {px : String → xw_A → Prop} {h : xw_A} {a0 : Nat} {x1 : Int32} {x2 : Int32}  (k : xw G m_Question_near F L bc bs pr px 69 [some (.ref a0), some (.int x1), some (.int x2), none, some (.int 10)] [.int 13, .ref a0] h) : xw G m_Question_near F L bc bs pr px 62 [some (.ref a0), some (.int x1), some (.int x2), none, none] [] h := by
  refine x_bipush (v := 10) d_Question_near_62 (by decide) ?_
  refine x_istore d_Question_near_64 (by decide) trivial ?_
  show xw G m_Question_near F L bc bs pr px 66 [some (.ref a0), some (.int x1), some (.int x2), none, some (.int 10)] [] h
  refine x_aload_n d_Question_near_66 rfl rfl ?_
  refine x_bipush (v := 13) d_Question_near_67 (by decide) ?_
  exact k
theorem s_Question_near_72 {G : xw_G} {F L bc bs : Nat} {pr : Option Value → xw_A → Prop} {px : String → xw_A → Prop} {h : xw_A} {a0 : Nat} {x1 : Int32} {x2 : Int32} {x4 : Int32} {y0 : Int32}  (kt : y0 = 0 → xw G m_Question_near F L bc bs pr px 108 [some (.ref a0), some (.int x1), some (.int x2), none, some (.int x4)] [] h) (kf : ¬ y0 = 0 → xw G m_Question_near F L bc bs pr px 75 [some (.ref a0), some (.int x1), some (.int x2), none, none] [] h) : xw G m_Question_near F L bc bs pr px 72 [some (.ref a0), some (.int x1), some (.int x2), none, some (.int x4)] [.int y0] h := by
  refine x_if_eq (tgt := 108) d_Question_near_72 (by decide) (fun hc => ?_) (fun hc => ?_)
  · exact kt hc
  · exact x_le (lv' := [some (.ref a0), some (.int x1), some (.int x2), none, none]) (xw_le_s (xw_le_s (xw_le_s (xw_le_n (xw_le_n xw_le_e))))) (kf hc)
theorem s_Question_near_75 {G : xw_G} {F L bc bs : Nat} {pr : Option Value → xw_A → Prop} {px : String → xw_A → Prop} {h : xw_A} {a0 : Nat} {x1 : Int32} {x2 : Int32} {tokens_a0 : Option Nat} {phrases_a0 : Option Nat} {nodes_a0 : Option Nat} {phraseCount_a0 : Int32} {nodeCount_a0 : Int32} {wrongPlace_a0 : Int32} {parts_a0 : Option Nat} {letters_a0 : Option Nat} {at_a0 : Int32} (e_a0 : h a0 = some (.inr (5, [va_rf tokens_a0, va_rf phrases_a0, va_rf nodes_a0, .int phraseCount_a0, .int nodeCount_a0, .int wrongPlace_a0, va_rf parts_a0, va_rf letters_a0, .int at_a0]))) (k : xw G m_Question_near F L bc bs pr px 83 [some (.ref a0), some (.int x1), some (.int x2), none, none] [.int at_a0, va_rf parts_a0] h) : xw G m_Question_near F L bc bs pr px 75 [some (.ref a0), some (.int x1), some (.int x2), none, none] [] h := by
  refine x_aload_n d_Question_near_75 rfl rfl ?_
  refine x_get d_Question_near_76 f_Question_35 e_a0 rfl ?_
  refine x_aload_n d_Question_near_79 rfl rfl ?_
  refine x_get d_Question_near_80 f_Question_49 e_a0 rfl ?_
  exact k
theorem s_Question_near_86 {G : xw_G} {F L bc bs : Nat} {pr : Option Value → xw_A → Prop} {px : String → xw_A → Prop} {h : xw_A} {a0 : Nat} {x1 : Int32} {x2 : Int32} {y0 : Int32}  (kt : 0 ≤ y0 → xw G m_Question_near F L bc bs pr px 98 [some (.ref a0), some (.int x1), some (.int x2), none, some (.int y0)] [] h) (kf : ¬ 0 ≤ y0 → xw G m_Question_near F L bc bs pr px 93 [some (.ref a0), none, none, none, none] [] h) : xw G m_Question_near F L bc bs pr px 86 [some (.ref a0), some (.int x1), some (.int x2), none, none] [.int y0] h := by
  refine x_istore d_Question_near_86 (by decide) trivial ?_
  show xw G m_Question_near F L bc bs pr px 88 [some (.ref a0), some (.int x1), some (.int x2), none, some (.int y0)] [] h
  refine x_iload d_Question_near_88 rfl ?_
  refine x_if_ge (tgt := 98) d_Question_near_90 (by decide) (fun hc => ?_) (fun hc => ?_)
  · exact kt hc
  · exact x_le (lv' := [some (.ref a0), none, none, none, none]) (xw_le_s (xw_le_n (xw_le_n (xw_le_n (xw_le_n xw_le_e))))) (kf hc)
theorem s_Question_near_93 {G : xw_G} {F L bc bs : Nat} {pr : Option Value → xw_A → Prop} {px : String → xw_A → Prop} {h : xw_A} {a0 : Nat}  (k : xw G m_Question_near F L bc bs pr px 94 [some (.ref a0), none, none, none, none] [.ref a0] h) : xw G m_Question_near F L bc bs pr px 93 [some (.ref a0), none, none, none, none] [] h := by
  refine x_aload_n d_Question_near_93 rfl rfl ?_
  exact k
theorem s_Question_near_97 {G : xw_G} {F L bc bs : Nat} {pr : Option Value → xw_A → Prop} {px : String → xw_A → Prop} {h : xw_A} {s0 : Option Nat}  (kr : pr (some (va_rf s0)) h) : xw G m_Question_near F L bc bs pr px 97 [none, none, none, none, none] [va_rf s0] h := by
  exact x_aret d_Question_near_97 rfl (Or.inl ⟨_, rfl⟩) (va_rf_or _) kr
theorem s_Question_near_98 {G : xw_G} {F L bc bs : Nat} {pr : Option Value → xw_A → Prop} {px : String → xw_A → Prop} {h : xw_A} {a0 : Nat} {x1 : Int32} {x2 : Int32} {x4 : Int32} {tokens_a0 : Option Nat} {phrases_a0 : Option Nat} {nodes_a0 : Option Nat} {phraseCount_a0 : Int32} {nodeCount_a0 : Int32} {wrongPlace_a0 : Int32} {parts_a0 : Option Nat} {letters_a0 : Option Nat} {at_a0 : Int32} (e_a0 : h a0 = some (.inr (5, [va_rf tokens_a0, va_rf phrases_a0, va_rf nodes_a0, .int phraseCount_a0, .int nodeCount_a0, .int wrongPlace_a0, va_rf parts_a0, va_rf letters_a0, .int at_a0]))) (k : xw G m_Question_near F L bc bs pr px 108 [some (.ref a0), some (.int x1), some (.int x2), none, some (.int x4)] [] (xw_up h a0 (.inr (5, [va_rf tokens_a0, va_rf phrases_a0, va_rf nodes_a0, .int phraseCount_a0, .int nodeCount_a0, .int wrongPlace_a0, va_rf parts_a0, va_rf letters_a0, .int (at_a0 + 1)])))) : xw G m_Question_near F L bc bs pr px 98 [some (.ref a0), some (.int x1), some (.int x2), none, some (.int x4)] [] h := by
  refine x_aload_n d_Question_near_98 rfl rfl ?_
  refine x_dup d_Question_near_99 rfl ?_
  refine x_get d_Question_near_100 f_Question_49 e_a0 rfl ?_
  refine x_iconst (v := 1) d_Question_near_103 (by decide) ?_
  refine x_iadd d_Question_near_104 ?_
  refine x_put (ty := .int) d_Question_near_105 f_Question_49 fw_Question_8.1 fw_Question_8.2 rfl rfl (Nat.le_of_ble_eq_true rfl) e_a0 ?_
  show xw G m_Question_near F L bc bs pr px 108 [some (.ref a0), some (.int x1), some (.int x2), none, some (.int x4)] [] (xw_up h a0 (.inr (5, [va_rf tokens_a0, va_rf phrases_a0, va_rf nodes_a0, .int phraseCount_a0, .int nodeCount_a0, .int wrongPlace_a0, va_rf parts_a0, va_rf letters_a0, .int (at_a0 + 1)])))
  exact k
theorem s_Question_near_108 {G : xw_G} {F L bc bs : Nat} {pr : Option Value → xw_A → Prop} {px : String → xw_A → Prop} {h : xw_A} {a0 : Nat} {x1 : Int32} {x2 : Int32} {x4 : Int32}  (k : xw G m_Question_near F L bc bs pr px 111 [some (.ref a0), some (.int x1), some (.int x2), none, some (.int x4)] [.int 10, .ref a0] h) : xw G m_Question_near F L bc bs pr px 108 [some (.ref a0), some (.int x1), some (.int x2), none, some (.int x4)] [] h := by
  refine x_aload_n d_Question_near_108 rfl rfl ?_
  refine x_bipush (v := 10) d_Question_near_109 (by decide) ?_
  exact k
theorem s_Question_near_114 {G : xw_G} {F L bc bs : Nat} {pr : Option Value → xw_A → Prop} {px : String → xw_A → Prop} {h : xw_A} {a0 : Nat} {x1 : Int32} {x2 : Int32} {x4 : Int32} {y0 : Int32}  (kt : y0 = 0 → xw G m_Question_near F L bc bs pr px 129 [some (.ref a0), none, none, none, none] [] h) (kf : ¬ y0 = 0 → xw G m_Question_near F L bc bs pr px 117 [some (.ref a0), some (.int x1), some (.int x2), none, some (.int x4)] [] h) : xw G m_Question_near F L bc bs pr px 114 [some (.ref a0), some (.int x1), some (.int x2), none, some (.int x4)] [.int y0] h := by
  refine x_if_eq (tgt := 129) d_Question_near_114 (by decide) (fun hc => ?_) (fun hc => ?_)
  · exact x_le (lv' := [some (.ref a0), none, none, none, none]) (xw_le_s (xw_le_n (xw_le_n (xw_le_n (xw_le_n xw_le_e))))) (kt hc)
  · exact kf hc
theorem s_Question_near_117 {G : xw_G} {F L bc bs : Nat} {pr : Option Value → xw_A → Prop} {px : String → xw_A → Prop} {h : xw_A} {a0 : Nat} {x1 : Int32} {x2 : Int32} {x4 : Int32}  (k : xw G m_Question_near F L bc bs pr px 123 [some (.ref a0), some (.int x1), some (.int x2), none, some (.int x4)] [.int ((-1)), .int x1, .int x4, .int x2, .ref a0] h) : xw G m_Question_near F L bc bs pr px 117 [some (.ref a0), some (.int x1), some (.int x2), none, some (.int x4)] [] h := by
  refine x_aload_n d_Question_near_117 rfl rfl ?_
  refine x_iload_n d_Question_near_118 rfl rfl ?_
  refine x_iload d_Question_near_119 rfl ?_
  refine x_iload_n d_Question_near_121 rfl rfl ?_
  refine x_iconst (v := -1) d_Question_near_122 (by decide) ?_
  exact k
theorem s_Question_near_126 {G : xw_G} {F L bc bs : Nat} {pr : Option Value → xw_A → Prop} {px : String → xw_A → Prop} {h : xw_A} {s0 : Option Nat}  (k : xw G m_Question_near F L bc bs pr px 133 [none, none, none, none, none] [va_rf s0] h) : xw G m_Question_near F L bc bs pr px 126 [none, none, none, none, none] [va_rf s0] h := by
  refine x_goto (tgt := 133) d_Question_near_126 (by decide) ?_
  exact k
theorem s_Question_near_129 {G : xw_G} {F L bc bs : Nat} {pr : Option Value → xw_A → Prop} {px : String → xw_A → Prop} {h : xw_A} {a0 : Nat}  (k : xw G m_Question_near F L bc bs pr px 130 [some (.ref a0), none, none, none, none] [.ref a0] h) : xw G m_Question_near F L bc bs pr px 129 [some (.ref a0), none, none, none, none] [] h := by
  refine x_aload_n d_Question_near_129 rfl rfl ?_
  exact k
theorem s_Question_near_133 {G : xw_G} {F L bc bs : Nat} {pr : Option Value → xw_A → Prop} {px : String → xw_A → Prop} {h : xw_A} {s0 : Option Nat}  (kr : pr (some (va_rf s0)) h) : xw G m_Question_near F L bc bs pr px 133 [none, none, none, none, none] [va_rf s0] h := by
  exact x_aret d_Question_near_133 rfl (Or.inl ⟨_, rfl⟩) (va_rf_or _) kr
theorem s_Question_readPhrase_0 {G : xw_G} {F L bc bs : Nat} {pr : Option Value → xw_A → Prop} {px : String → xw_A → Prop} {h : xw_A} {a0 : Nat} {tokens_a0 : Nat} {phrases_a0 : Option Nat} {nodes_a0 : Option Nat} {phraseCount_a0 : Int32} {nodeCount_a0 : Int32} {wrongPlace_a0 : Int32} {parts_a0 : Option Nat} {letters_a0 : Option Nat} {at_a0 : Int32} {letters_tokens_a0 : Option Nat} {starts_tokens_a0 : Option Nat} {count_tokens_a0 : Int32} (e_a0 : h a0 = some (.inr (5, [.ref tokens_a0, va_rf phrases_a0, va_rf nodes_a0, .int phraseCount_a0, .int nodeCount_a0, .int wrongPlace_a0, va_rf parts_a0, va_rf letters_a0, .int at_a0]))) (e_tokens_a0 : h tokens_a0 = some (.inr (9, [va_rf letters_tokens_a0, va_rf starts_tokens_a0, .int count_tokens_a0]))) (kt : 12 ≤ phraseCount_a0 → xw G m_Question_readPhrase F L bc bs pr px 24 [some (.ref a0), none, none] [] h) (kf : ¬ 12 ≤ phraseCount_a0 → xw G m_Question_readPhrase F L bc bs pr px 17 [some (.ref a0), some (.int count_tokens_a0), none] [] h) : xw G m_Question_readPhrase F L bc bs pr px 0 [some (.ref a0), none, none] [] h := by
  refine x_aload_n d_Question_readPhrase_0 rfl rfl ?_
  refine x_get d_Question_readPhrase_1 f_Question_16 e_a0 rfl ?_
  refine x_get d_Question_readPhrase_4 f_Question_53 e_tokens_a0 rfl ?_
  refine x_istore_n d_Question_readPhrase_7 rfl (by decide) rfl ?_
  show xw G m_Question_readPhrase F L bc bs pr px 8 [some (.ref a0), some (.int count_tokens_a0), none] [] h
  refine x_aload_n d_Question_readPhrase_8 rfl rfl ?_
  refine x_get d_Question_readPhrase_9 f_Question_56 e_a0 rfl ?_
  refine x_bipush (v := 12) d_Question_readPhrase_12 (by decide) ?_
  refine x_icmp_ge (tgt := 24) d_Question_readPhrase_14 (by decide) (fun hc => ?_) (fun hc => ?_)
  · exact x_le (lv' := [some (.ref a0), none, none]) (xw_le_s (xw_le_n (xw_le_n xw_le_e))) (kt hc)
  · exact kf hc
theorem s_Question_readPhrase_17 {G : xw_G} {F L bc bs : Nat} {pr : Option Value → xw_A → Prop} {px : String → xw_A → Prop} {h : xw_A} {a0 : Nat} {x1 : Int32}  (k : xw G m_Question_readPhrase F L bc bs pr px 18 [some (.ref a0), some (.int x1), none] [.ref a0] h) : xw G m_Question_readPhrase F L bc bs pr px 17 [some (.ref a0), some (.int x1), none] [] h := by
  refine x_aload_n d_Question_readPhrase_17 rfl rfl ?_
  exact k
theorem s_Question_readPhrase_21 {G : xw_G} {F L bc bs : Nat} {pr : Option Value → xw_A → Prop} {px : String → xw_A → Prop} {h : xw_A} {a0 : Nat} {x1 : Int32} {y0 : Int32}  (kt : ¬ y0 = 0 → xw G m_Question_readPhrase F L bc bs pr px 31 [some (.ref a0), some (.int x1), none] [] h) (kf : y0 = 0 → xw G m_Question_readPhrase F L bc bs pr px 24 [some (.ref a0), none, none] [] h) : xw G m_Question_readPhrase F L bc bs pr px 21 [some (.ref a0), some (.int x1), none] [.int y0] h := by
  refine x_if_ne (tgt := 31) d_Question_readPhrase_21 (by decide) (fun hc => ?_) (fun hc => ?_)
  · exact kt hc
  · exact x_le (lv' := [some (.ref a0), none, none]) (xw_le_s (xw_le_n (xw_le_n xw_le_e))) (kf hc)
theorem s_Question_readPhrase_24 {G : xw_G} {F L bc bs : Nat} {pr : Option Value → xw_A → Prop} {px : String → xw_A → Prop} {h : xw_A} {a0 : Nat}  (k : xw G m_Question_readPhrase F L bc bs pr px 25 [some (.ref a0), none, none] [.ref a0] h) : xw G m_Question_readPhrase F L bc bs pr px 24 [some (.ref a0), none, none] [] h := by
  refine x_aload_n d_Question_readPhrase_24 rfl rfl ?_
  exact k
theorem s_Question_readPhrase_28 {G : xw_G} {F L bc bs : Nat} {pr : Option Value → xw_A → Prop} {px : String → xw_A → Prop} {h : xw_A} {b0 : Nat}  (kr : pr (some (.int 0)) h) : xw G m_Question_readPhrase F L bc bs pr px 28 [none, none, none] [.ref b0] h := by
  refine x_pop d_Question_readPhrase_28 rfl ?_
  refine x_iconst (v := 0) d_Question_readPhrase_29 (by decide) ?_
  exact x_zret d_Question_readPhrase_30 rfl rfl kr
theorem s_Question_readPhrase_31 {G : xw_G} {F L bc bs : Nat} {pr : Option Value → xw_A → Prop} {px : String → xw_A → Prop} {h : xw_A} {a0 : Nat} {x1 : Int32}  (k : xw G m_Question_readPhrase F L bc bs pr px 33 [some (.ref a0), some (.int x1), some (.int 0)] [] h) : xw G m_Question_readPhrase F L bc bs pr px 31 [some (.ref a0), some (.int x1), none] [] h := by
  refine x_iconst (v := 0) d_Question_readPhrase_31 (by decide) ?_
  refine x_istore_n d_Question_readPhrase_32 rfl (by decide) rfl ?_
  show xw G m_Question_readPhrase F L bc bs pr px 33 [some (.ref a0), some (.int x1), some (.int 0)] [] h
  exact k
theorem s_Question_readPhrase_33 {G : xw_G} {F L bc bs : Nat} {pr : Option Value → xw_A → Prop} {px : String → xw_A → Prop} {h : xw_A} {a0 : Nat} {x1 : Int32} {x2 : Int32}  (kt : 96 ≤ x2 → xw G m_Question_readPhrase F L bc bs pr px 68 [some (.ref a0), some (.int x1), none] [] h) (kf : ¬ 96 ≤ x2 → xw G m_Question_readPhrase F L bc bs pr px 39 [some (.ref a0), some (.int x1), some (.int x2)] [] h) : xw G m_Question_readPhrase F L bc bs pr px 33 [some (.ref a0), some (.int x1), some (.int x2)] [] h := by
  refine x_iload_n d_Question_readPhrase_33 rfl rfl ?_
  refine x_bipush (v := 96) d_Question_readPhrase_34 (by decide) ?_
  refine x_icmp_ge (tgt := 68) d_Question_readPhrase_36 (by decide) (fun hc => ?_) (fun hc => ?_)
  · exact x_le (lv' := [some (.ref a0), some (.int x1), none]) (xw_le_s (xw_le_s (xw_le_n xw_le_e))) (kt hc)
  · exact kf hc
theorem s_Question_readPhrase_39 {G : xw_G} {F L bc bs : Nat} {pr : Option Value → xw_A → Prop} {px : String → xw_A → Prop} {h : xw_A} {a0 : Nat} {x1 : Int32} {x2 : Int32}  (k : xw G m_Question_readPhrase F L bc bs pr px 42 [some (.ref a0), some (.int x1), some (.int x2)] [.int 14, .ref a0] h) : xw G m_Question_readPhrase F L bc bs pr px 39 [some (.ref a0), some (.int x1), some (.int x2)] [] h := by
  refine x_aload_n d_Question_readPhrase_39 rfl rfl ?_
  refine x_bipush (v := 14) d_Question_readPhrase_40 (by decide) ?_
  exact k
theorem s_Question_readPhrase_45 {G : xw_G} {F L bc bs : Nat} {pr : Option Value → xw_A → Prop} {px : String → xw_A → Prop} {h : xw_A} {a0 : Nat} {x1 : Int32} {x2 : Int32} {y0 : Int32}  (kt : y0 = 0 → xw G m_Question_readPhrase F L bc bs pr px 68 [some (.ref a0), some (.int x1), none] [] h) (kf : ¬ y0 = 0 → xw G m_Question_readPhrase F L bc bs pr px 48 [some (.ref a0), some (.int x1), some (.int x2)] [] h) : xw G m_Question_readPhrase F L bc bs pr px 45 [some (.ref a0), some (.int x1), some (.int x2)] [.int y0] h := by
  refine x_if_eq (tgt := 68) d_Question_readPhrase_45 (by decide) (fun hc => ?_) (fun hc => ?_)
  · exact x_le (lv' := [some (.ref a0), some (.int x1), none]) (xw_le_s (xw_le_s (xw_le_n xw_le_e))) (kt hc)
  · exact kf hc
theorem s_Question_readPhrase_48 {G : xw_G} {F L bc bs : Nat} {pr : Option Value → xw_A → Prop} {px : String → xw_A → Prop} {h : xw_A} {a0 : Nat} {x1 : Int32} {x2 : Int32}  (k : xw G m_Question_readPhrase F L bc bs pr px 49 [some (.ref a0), some (.int x1), some (.int x2)] [.ref a0] h) : xw G m_Question_readPhrase F L bc bs pr px 48 [some (.ref a0), some (.int x1), some (.int x2)] [] h := by
  refine x_aload_n d_Question_readPhrase_48 rfl rfl ?_
  exact k
theorem s_Question_readPhrase_52 {G : xw_G} {F L bc bs : Nat} {pr : Option Value → xw_A → Prop} {px : String → xw_A → Prop} {h : xw_A} {a0 : Nat} {x1 : Int32} {x2 : Int32} {y0 : Int32}  (kt : ¬ y0 = 0 → xw G m_Question_readPhrase F L bc bs pr px 62 [some (.ref a0), some (.int x1), some (.int x2)] [] h) (kf : y0 = 0 → xw G m_Question_readPhrase F L bc bs pr px 55 [some (.ref a0), none, none] [] h) : xw G m_Question_readPhrase F L bc bs pr px 52 [some (.ref a0), some (.int x1), some (.int x2)] [.int y0] h := by
  refine x_if_ne (tgt := 62) d_Question_readPhrase_52 (by decide) (fun hc => ?_) (fun hc => ?_)
  · exact kt hc
  · exact x_le (lv' := [some (.ref a0), none, none]) (xw_le_s (xw_le_n (xw_le_n xw_le_e))) (kf hc)
theorem s_Question_readPhrase_55 {G : xw_G} {F L bc bs : Nat} {pr : Option Value → xw_A → Prop} {px : String → xw_A → Prop} {h : xw_A} {a0 : Nat}  (k : xw G m_Question_readPhrase F L bc bs pr px 56 [some (.ref a0), none, none] [.ref a0] h) : xw G m_Question_readPhrase F L bc bs pr px 55 [some (.ref a0), none, none] [] h := by
  refine x_aload_n d_Question_readPhrase_55 rfl rfl ?_
  exact k
theorem s_Question_readPhrase_59 {G : xw_G} {F L bc bs : Nat} {pr : Option Value → xw_A → Prop} {px : String → xw_A → Prop} {h : xw_A} {b0 : Nat}  (kr : pr (some (.int 0)) h) : xw G m_Question_readPhrase F L bc bs pr px 59 [none, none, none] [.ref b0] h := by
  refine x_pop d_Question_readPhrase_59 rfl ?_
  refine x_iconst (v := 0) d_Question_readPhrase_60 (by decide) ?_
  exact x_zret d_Question_readPhrase_61 rfl rfl kr
theorem s_Question_readPhrase_62 {G : xw_G} {F L bc bs : Nat} {pr : Option Value → xw_A → Prop} {px : String → xw_A → Prop} {h : xw_A} {a0 : Nat} {x1 : Int32} {x2 : Int32}  (k : xw G m_Question_readPhrase F L bc bs pr px 33 [some (.ref a0), some (.int x1), some (.int (x2 + 1))] [] h) : xw G m_Question_readPhrase F L bc bs pr px 62 [some (.ref a0), some (.int x1), some (.int x2)] [] h := by
  refine x_iinc (v := x2 + 1) d_Question_readPhrase_62 rfl (by rfl) (by decide) rfl ?_
  show xw G m_Question_readPhrase F L bc bs pr px 65 [some (.ref a0), some (.int x1), some (.int (x2 + 1))] [] h
  refine x_goto (tgt := 33) d_Question_readPhrase_65 (by decide) ?_
  exact k
theorem s_Question_readPhrase_68 {G : xw_G} {F L bc bs : Nat} {pr : Option Value → xw_A → Prop} {px : String → xw_A → Prop} {h : xw_A} {a0 : Nat} {x1 : Int32} {tokens_a0 : Nat} {phrases_a0 : Nat} {nodes_a0 : Option Nat} {phraseCount_a0 : Int32} {nodeCount_a0 : Int32} {wrongPlace_a0 : Int32} {parts_a0 : Option Nat} {letters_a0 : Option Nat} {at_a0 : Int32} {n_phrases_a0 : Nat} {f_phrases_a0 : Nat → Option Nat} {g76 : Nat} {first_g76 : Int32} {size_g76 : Int32} {beginning_g76 : Int32} {letters_tokens_a0 : Option Nat} {starts_tokens_a0 : Option Nat} {count_tokens_a0 : Int32} (e_a0 : h a0 = some (.inr (5, [.ref tokens_a0, .ref phrases_a0, va_rf nodes_a0, .int phraseCount_a0, .int nodeCount_a0, .int wrongPlace_a0, va_rf parts_a0, va_rf letters_a0, .int at_a0]))) (e_phrases_a0 : h phrases_a0 = some (.inl (4 + 6, n_phrases_a0, .inr (.inr (.inr (.inr f_phrases_a0)))))) (i_76 : vp_in phraseCount_a0 n_phrases_a0) (g_76 : f_phrases_a0 phraseCount_a0.toNatClampNeg = some g76) (e_g76 : h g76 = some (.inr (4, [.int first_g76, .int size_g76, .int beginning_g76]))) (e_tokens_a0 : h tokens_a0 = some (.inr (9, [va_rf letters_tokens_a0, va_rf starts_tokens_a0, .int count_tokens_a0]))) (k : xw G m_Question_readPhrase F L bc bs pr px 100 [some (.ref a0), some (.int x1), some (.ref g76)] [.int 15, .ref a0, .ref g76] (xw_up (xw_up h g76 (.inr (4, [.int x1, .int size_g76, .int beginning_g76]))) g76 (.inr (4, [.int x1, .int (count_tokens_a0 - x1), .int beginning_g76])))) : xw G m_Question_readPhrase F L bc bs pr px 68 [some (.ref a0), some (.int x1), none] [] h := by
  refine x_aload_n d_Question_readPhrase_68 rfl rfl ?_
  refine x_get d_Question_readPhrase_69 f_Question_24 e_a0 rfl ?_
  refine x_aload_n d_Question_readPhrase_72 rfl rfl ?_
  refine x_get d_Question_readPhrase_73 f_Question_56 e_a0 rfl ?_
  refine x_aald (v := .ref g76) d_Question_readPhrase_76 e_phrases_a0 i_76 (by rw [g_76]; rfl) ?_
  refine x_astore_n d_Question_readPhrase_77 rfl (by decide) rfl ?_
  show xw G m_Question_readPhrase F L bc bs pr px 78 [some (.ref a0), some (.int x1), some (.ref g76)] [] h
  refine x_aload_n d_Question_readPhrase_78 rfl rfl ?_
  refine x_iload_n d_Question_readPhrase_79 rfl rfl ?_
  refine x_put (ty := .int) d_Question_readPhrase_80 f_Question_139 fw_Phrase_0.1 fw_Phrase_0.2 rfl rfl (Nat.le_of_ble_eq_true rfl) e_g76 ?_
  show xw G m_Question_readPhrase F L bc bs pr px 83 [some (.ref a0), some (.int x1), some (.ref g76)] [] (xw_up h g76 (.inr (4, [.int x1, .int size_g76, .int beginning_g76])))
  refine x_aload_n d_Question_readPhrase_83 rfl rfl ?_
  refine x_aload_n d_Question_readPhrase_84 rfl rfl ?_
  refine x_get d_Question_readPhrase_85 f_Question_16 ((xw_up_n _ _ (xw_ne e_a0 e_g76 (by simp))).trans e_a0) rfl ?_
  refine x_get d_Question_readPhrase_88 f_Question_53 ((xw_up_n _ _ (xw_ne e_tokens_a0 e_g76 (by simp))).trans e_tokens_a0) rfl ?_
  refine x_iload_n d_Question_readPhrase_91 rfl rfl ?_
  refine x_isub d_Question_readPhrase_92 ?_
  refine x_put (ty := .int) d_Question_readPhrase_93 f_Question_142 fw_Phrase_1.1 fw_Phrase_1.2 rfl rfl (Nat.le_of_ble_eq_true rfl) (xw_up_s _ _ _) ?_
  show xw G m_Question_readPhrase F L bc bs pr px 96 [some (.ref a0), some (.int x1), some (.ref g76)] [] (xw_up (xw_up h g76 (.inr (4, [.int x1, .int size_g76, .int beginning_g76]))) g76 (.inr (4, [.int x1, .int (count_tokens_a0 - x1), .int beginning_g76])))
  refine x_aload_n d_Question_readPhrase_96 rfl rfl ?_
  refine x_aload_n d_Question_readPhrase_97 rfl rfl ?_
  refine x_bipush (v := 15) d_Question_readPhrase_98 (by decide) ?_
  exact k
theorem s_Question_readPhrase_103 {G : xw_G} {F L bc bs : Nat} {pr : Option Value → xw_A → Prop} {px : String → xw_A → Prop} {h : xw_A} {a0 : Nat} {y0 : Int32} {b1 : Nat} {first_b1 : Int32} {size_b1 : Int32} {beginning_b1 : Int32} {tokens_a0 : Option Nat} {phrases_a0 : Option Nat} {nodes_a0 : Option Nat} {phraseCount_a0 : Int32} {nodeCount_a0 : Int32} {wrongPlace_a0 : Int32} {parts_a0 : Option Nat} {letters_a0 : Option Nat} {at_a0 : Int32} (e_b1 : h b1 = some (.inr (4, [.int first_b1, .int size_b1, .int beginning_b1]))) (w_103 : narrow .boolean (.int y0) = .int y0 ∧ fits .boolean (.int y0) = true) (e_a0 : h a0 = some (.inr (5, [va_rf tokens_a0, va_rf phrases_a0, va_rf nodes_a0, .int phraseCount_a0, .int nodeCount_a0, .int wrongPlace_a0, va_rf parts_a0, va_rf letters_a0, .int at_a0]))) (kr : pr (some (.int 1)) (xw_up (xw_up h b1 (.inr (4, [.int first_b1, .int size_b1, .int y0]))) a0 (.inr (5, [va_rf tokens_a0, va_rf phrases_a0, va_rf nodes_a0, .int (phraseCount_a0 + 1), .int nodeCount_a0, .int wrongPlace_a0, va_rf parts_a0, va_rf letters_a0, .int at_a0])))) : xw G m_Question_readPhrase F L bc bs pr px 103 [some (.ref a0), none, none] [.int y0, .ref b1] h := by
  refine x_put (ty := .boolean) d_Question_readPhrase_103 f_Question_145 fw_Phrase_2.1 fw_Phrase_2.2 w_103.1 w_103.2 (Nat.le_of_ble_eq_true rfl) e_b1 ?_
  show xw G m_Question_readPhrase F L bc bs pr px 106 [some (.ref a0), none, none] [] (xw_up h b1 (.inr (4, [.int first_b1, .int size_b1, .int y0])))
  refine x_aload_n d_Question_readPhrase_106 rfl rfl ?_
  refine x_dup d_Question_readPhrase_107 rfl ?_
  refine x_get d_Question_readPhrase_108 f_Question_56 ((xw_up_n _ _ (xw_ne e_a0 e_b1 (by simp))).trans e_a0) rfl ?_
  refine x_iconst (v := 1) d_Question_readPhrase_111 (by decide) ?_
  refine x_iadd d_Question_readPhrase_112 ?_
  refine x_put (ty := .int) d_Question_readPhrase_113 f_Question_56 fw_Question_3.1 fw_Question_3.2 rfl rfl (Nat.le_of_ble_eq_true rfl) ((xw_up_n _ _ (xw_ne e_a0 e_b1 (by simp))).trans e_a0) ?_
  show xw G m_Question_readPhrase F L bc bs pr px 116 [some (.ref a0), none, none] [] (xw_up (xw_up h b1 (.inr (4, [.int first_b1, .int size_b1, .int y0]))) a0 (.inr (5, [va_rf tokens_a0, va_rf phrases_a0, va_rf nodes_a0, .int (phraseCount_a0 + 1), .int nodeCount_a0, .int wrongPlace_a0, va_rf parts_a0, va_rf letters_a0, .int at_a0])))
  refine x_iconst (v := 1) d_Question_readPhrase_116 (by decide) ?_
  exact x_zret d_Question_readPhrase_117 rfl rfl kr
theorem s_Question_readString_0 {G : xw_G} {F L bc bs : Nat} {pr : Option Value → xw_A → Prop} {px : String → xw_A → Prop} {h : xw_A} {a0 : Nat}  (k : xw G m_Question_readString F L bc bs pr px 1 [some (.ref a0)] [.ref a0] h) : xw G m_Question_readString F L bc bs pr px 0 [some (.ref a0)] [] h := by
  refine x_aload_n d_Question_readString_0 rfl rfl ?_
  exact k
theorem s_Question_readString_4 {G : xw_G} {F L bc bs : Nat} {pr : Option Value → xw_A → Prop} {px : String → xw_A → Prop} {h : xw_A} {a0 : Nat} {y0 : Int32}  (kt : ¬ y0 = 0 → xw G m_Question_readString F L bc bs pr px 9 [some (.ref a0)] [] h) (kf : y0 = 0 → xw G m_Question_readString F L bc bs pr px 7 [none] [] h) : xw G m_Question_readString F L bc bs pr px 4 [some (.ref a0)] [.int y0] h := by
  refine x_if_ne (tgt := 9) d_Question_readString_4 (by decide) (fun hc => ?_) (fun hc => ?_)
  · exact kt hc
  · exact x_le (lv' := [none]) (xw_le_n xw_le_e) (kf hc)
theorem s_Question_readString_7 {G : xw_G} {F L bc bs : Nat} {pr : Option Value → xw_A → Prop} {px : String → xw_A → Prop} {h : xw_A}   (kr : pr (some (.int 0)) h) : xw G m_Question_readString F L bc bs pr px 7 [none] [] h := by
  refine x_iconst (v := 0) d_Question_readString_7 (by decide) ?_
  exact x_zret d_Question_readString_8 rfl rfl kr
theorem s_Question_readString_9 {G : xw_G} {F L bc bs : Nat} {pr : Option Value → xw_A → Prop} {px : String → xw_A → Prop} {h : xw_A} {a0 : Nat} {tokens_a0 : Option Nat} {phrases_a0 : Option Nat} {nodes_a0 : Option Nat} {phraseCount_a0 : Int32} {nodeCount_a0 : Int32} {wrongPlace_a0 : Int32} {parts_a0 : Nat} {letters_a0 : Option Nat} {at_a0 : Int32} {kinds_parts_a0 : Option Nat} {starts_parts_a0 : Nat} {ends_parts_a0 : Nat} {letters_parts_a0 : Option Nat} {length_parts_a0 : Int32} {n_starts_parts_a0 : Nat} {f_starts_parts_a0 : Nat → Int32} {n_ends_parts_a0 : Nat} {f_ends_parts_a0 : Nat → Int32} (e_a0 : h a0 = some (.inr (5, [va_rf tokens_a0, va_rf phrases_a0, va_rf nodes_a0, .int phraseCount_a0, .int nodeCount_a0, .int wrongPlace_a0, .ref parts_a0, va_rf letters_a0, .int at_a0]))) (e_parts_a0 : h parts_a0 = some (.inr (3, [va_rf kinds_parts_a0, .ref starts_parts_a0, .ref ends_parts_a0, va_rf letters_parts_a0, .int length_parts_a0]))) (e_starts_parts_a0 : h starts_parts_a0 = some (.inl (0, n_starts_parts_a0, .inl f_starts_parts_a0))) (i_28 : vp_in at_a0 n_starts_parts_a0) (e_ends_parts_a0 : h ends_parts_a0 = some (.inl (0, n_ends_parts_a0, .inl f_ends_parts_a0))) (i_40 : vp_in at_a0 n_ends_parts_a0) (k : xw G m_Question_readString F L bc bs pr px 41 [some (.ref a0)] [.int (f_ends_parts_a0 at_a0.toNatClampNeg), .int (f_starts_parts_a0 at_a0.toNatClampNeg), va_rf letters_a0, va_rf tokens_a0] h) : xw G m_Question_readString F L bc bs pr px 9 [some (.ref a0)] [] h := by
  refine x_aload_n d_Question_readString_9 rfl rfl ?_
  refine x_get d_Question_readString_10 f_Question_16 e_a0 rfl ?_
  refine x_aload_n d_Question_readString_13 rfl rfl ?_
  refine x_get d_Question_readString_14 f_Question_45 e_a0 rfl ?_
  refine x_aload_n d_Question_readString_17 rfl rfl ?_
  refine x_get d_Question_readString_18 f_Question_35 e_a0 rfl ?_
  refine x_get d_Question_readString_21 f_Question_81 e_parts_a0 rfl ?_
  refine x_aload_n d_Question_readString_24 rfl rfl ?_
  refine x_get d_Question_readString_25 f_Question_49 e_a0 rfl ?_
  refine x_iald d_Question_readString_28 e_starts_parts_a0 i_28 ?_
  refine x_aload_n d_Question_readString_29 rfl rfl ?_
  refine x_get d_Question_readString_30 f_Question_35 e_a0 rfl ?_
  refine x_get d_Question_readString_33 f_Question_149 e_parts_a0 rfl ?_
  refine x_aload_n d_Question_readString_36 rfl rfl ?_
  refine x_get d_Question_readString_37 f_Question_49 e_a0 rfl ?_
  refine x_iald d_Question_readString_40 e_ends_parts_a0 i_40 ?_
  exact k
theorem s_Question_readString_44 {G : xw_G} {F L bc bs : Nat} {pr : Option Value → xw_A → Prop} {px : String → xw_A → Prop} {h : xw_A} {a0 : Nat} {tokens_a0 : Option Nat} {phrases_a0 : Option Nat} {nodes_a0 : Option Nat} {phraseCount_a0 : Int32} {nodeCount_a0 : Int32} {wrongPlace_a0 : Int32} {parts_a0 : Option Nat} {letters_a0 : Option Nat} {at_a0 : Int32} (e_a0 : h a0 = some (.inr (5, [va_rf tokens_a0, va_rf phrases_a0, va_rf nodes_a0, .int phraseCount_a0, .int nodeCount_a0, .int wrongPlace_a0, va_rf parts_a0, va_rf letters_a0, .int at_a0]))) (kr : pr (some (.int 1)) (xw_up h a0 (.inr (5, [va_rf tokens_a0, va_rf phrases_a0, va_rf nodes_a0, .int phraseCount_a0, .int nodeCount_a0, .int wrongPlace_a0, va_rf parts_a0, va_rf letters_a0, .int (at_a0 + 1)])))) : xw G m_Question_readString F L bc bs pr px 44 [some (.ref a0)] [] h := by
  refine x_aload_n d_Question_readString_44 rfl rfl ?_
  refine x_dup d_Question_readString_45 rfl ?_
  refine x_get d_Question_readString_46 f_Question_49 e_a0 rfl ?_
  refine x_iconst (v := 1) d_Question_readString_49 (by decide) ?_
  refine x_iadd d_Question_readString_50 ?_
  refine x_put (ty := .int) d_Question_readString_51 f_Question_49 fw_Question_8.1 fw_Question_8.2 rfl rfl (Nat.le_of_ble_eq_true rfl) e_a0 ?_
  show xw G m_Question_readString F L bc bs pr px 54 [some (.ref a0)] [] (xw_up h a0 (.inr (5, [va_rf tokens_a0, va_rf phrases_a0, va_rf nodes_a0, .int phraseCount_a0, .int nodeCount_a0, .int wrongPlace_a0, va_rf parts_a0, va_rf letters_a0, .int (at_a0 + 1)])))
  refine x_iconst (v := 1) d_Question_readString_54 (by decide) ?_
  exact x_zret d_Question_readString_55 rfl rfl kr
theorem s_Question_beginsString_0 {G : xw_G} {F L bc bs : Nat} {pr : Option Value → xw_A → Prop} {px : String → xw_A → Prop} {h : xw_A} {a0 : Nat}  (k : xw G m_Question_beginsString F L bc bs pr px 1 [some (.ref a0), none] [.ref a0] h) : xw G m_Question_beginsString F L bc bs pr px 0 [some (.ref a0), none] [] h := by
  refine x_aload_n d_Question_beginsString_0 rfl rfl ?_
  exact k
theorem s_Question_beginsString_4 {G : xw_G} {F L bc bs : Nat} {pr : Option Value → xw_A → Prop} {px : String → xw_A → Prop} {h : xw_A} {y0 : Int32}  (kt : y0 = 2 → xw G m_Question_beginsString F L bc bs pr px 15 [none, none] [] h) (kf : ¬ y0 = 2 → xw G m_Question_beginsString F L bc bs pr px 10 [none, some (.int y0)] [] h) : xw G m_Question_beginsString F L bc bs pr px 4 [none, none] [.int y0] h := by
  refine x_istore_n d_Question_beginsString_4 rfl (by decide) trivial ?_
  show xw G m_Question_beginsString F L bc bs pr px 5 [none, some (.int y0)] [] h
  refine x_iload_n d_Question_beginsString_5 rfl rfl ?_
  refine x_iconst (v := 2) d_Question_beginsString_6 (by decide) ?_
  refine x_icmp_eq (tgt := 15) d_Question_beginsString_7 (by decide) (fun hc => ?_) (fun hc => ?_)
  · exact x_le (lv' := [none, none]) (xw_le_n (xw_le_n xw_le_e)) (kt hc)
  · exact kf hc
theorem s_Question_beginsString_10 {G : xw_G} {F L bc bs : Nat} {pr : Option Value → xw_A → Prop} {px : String → xw_A → Prop} {h : xw_A} {x1 : Int32}  (kt : ¬ x1 = 4 → xw G m_Question_beginsString F L bc bs pr px 19 [none, none] [] h) (kf : x1 = 4 → xw G m_Question_beginsString F L bc bs pr px 15 [none, none] [] h) : xw G m_Question_beginsString F L bc bs pr px 10 [none, some (.int x1)] [] h := by
  refine x_iload_n d_Question_beginsString_10 rfl rfl ?_
  refine x_iconst (v := 4) d_Question_beginsString_11 (by decide) ?_
  refine x_icmp_ne (tgt := 19) d_Question_beginsString_12 (by decide) (fun hc => ?_) (fun hc => ?_)
  · exact x_le (lv' := [none, none]) (xw_le_n (xw_le_n xw_le_e)) (kt hc)
  · exact x_le (lv' := [none, none]) (xw_le_n (xw_le_n xw_le_e)) (kf hc)
theorem s_Question_beginsString_15 {G : xw_G} {F L bc bs : Nat} {pr : Option Value → xw_A → Prop} {px : String → xw_A → Prop} {h : xw_A}   (k : xw G m_Question_beginsString F L bc bs pr px 20 [none, none] [.int 1] h) : xw G m_Question_beginsString F L bc bs pr px 15 [none, none] [] h := by
  refine x_iconst (v := 1) d_Question_beginsString_15 (by decide) ?_
  refine x_goto (tgt := 20) d_Question_beginsString_16 (by decide) ?_
  exact k
theorem s_Question_beginsString_19 {G : xw_G} {F L bc bs : Nat} {pr : Option Value → xw_A → Prop} {px : String → xw_A → Prop} {h : xw_A}   (k : xw G m_Question_beginsString F L bc bs pr px 20 [none, none] [.int 0] h) : xw G m_Question_beginsString F L bc bs pr px 19 [none, none] [] h := by
  refine x_iconst (v := 0) d_Question_beginsString_19 (by decide) ?_
  exact k
theorem s_Question_beginsString_20 {G : xw_G} {F L bc bs : Nat} {pr : Option Value → xw_A → Prop} {px : String → xw_A → Prop} {h : xw_A} {y0 : Int32} (w_20 : narrow .boolean (.int y0) = .int y0) (kr : pr (some (.int y0)) h) : xw G m_Question_beginsString F L bc bs pr px 20 [none, none] [.int y0] h := by
  exact x_zret d_Question_beginsString_20 rfl w_20 kr
theorem s_Question_group_0 {G : xw_G} {F L bc bs : Nat} {pr : Option Value → xw_A → Prop} {px : String → xw_A → Prop} {h : xw_A} {a0 : Nat} {x1 : Int32} {x2 : Int32} {x3 : Int32} {x4 : Int32}  (k : xw G m_Question_group F L bc bs pr px 2 [some (.ref a0), some (.int x1), some (.int x2), some (.int x3), some (.int x4), none] [.int 0, .ref a0] h) : xw G m_Question_group F L bc bs pr px 0 [some (.ref a0), some (.int x1), some (.int x2), some (.int x3), some (.int x4), none] [] h := by
  refine x_aload_n d_Question_group_0 rfl rfl ?_
  refine x_iconst (v := 0) d_Question_group_1 (by decide) ?_
  exact k
theorem s_Question_group_5 {G : xw_G} {F L bc bs : Nat} {pr : Option Value → xw_A → Prop} {px : String → xw_A → Prop} {h : xw_A} {a0 : Nat} {x1 : Int32} {x2 : Int32} {x3 : Int32} {x4 : Int32} {s0 : Option Nat}  (kn : s0 = none → xw G m_Question_group F L bc bs pr px 46 [none, none, none, none, none, some (va_rf s0)] [] h) (ks : ∀ a9 : Nat, s0 = some a9 → xw G m_Question_group F L bc bs pr px 12 [some (.ref a0), some (.int x1), some (.int x2), some (.int x3), some (.int x4), some (va_rf s0)] [] h) : xw G m_Question_group F L bc bs pr px 5 [some (.ref a0), some (.int x1), some (.int x2), some (.int x3), some (.int x4), none] [va_rf s0] h := by
  refine x_astoreq d_Question_group_5 (by decide) rfl ?_
  show xw G m_Question_group F L bc bs pr px 7 [some (.ref a0), some (.int x1), some (.int x2), some (.int x3), some (.int x4), some (va_rf s0)] [] h
  refine x_aloadq d_Question_group_7 rfl ?_
  refine x_ifnullq (tgt := 46) d_Question_group_9 (by decide) (fun hc => ?_) (fun a9 hc => ?_)
  · exact x_le (lv' := [none, none, none, none, none, some (va_rf s0)]) (xw_le_n (xw_le_n (xw_le_n (xw_le_n (xw_le_n (xw_le_s xw_le_e)))))) (kn hc)
  · exact ks a9 hc
theorem s_Question_group_12 {G : xw_G} {F L bc bs : Nat} {pr : Option Value → xw_A → Prop} {px : String → xw_A → Prop} {h : xw_A} {a0 : Nat} {x1 : Int32} {x2 : Int32} {x3 : Int32} {x4 : Int32} {a5 : Nat} {kind_a5 : Int32} {left_a5 : Option Nat} {right_a5 : Option Nat} {firstPhrase_a5 : Int32} {phraseEnd_a5 : Int32} {reach_a5 : Int32} {columns_a5 : Int32} {places_a5 : Int32} {rows_a5 : Int32} {tokens_a0 : Option Nat} {phrases_a0 : Option Nat} {nodes_a0 : Option Nat} {phraseCount_a0 : Int32} {nodeCount_a0 : Int32} {wrongPlace_a0 : Int32} {parts_a0 : Option Nat} {letters_a0 : Option Nat} {at_a0 : Int32} (e_a5 : h a5 = some (.inr (2, [.int kind_a5, va_rf left_a5, va_rf right_a5, .int firstPhrase_a5, .int phraseEnd_a5, .int reach_a5, .int columns_a5, .int places_a5, .int rows_a5]))) (e_a0 : h a0 = some (.inr (5, [va_rf tokens_a0, va_rf phrases_a0, va_rf nodes_a0, .int phraseCount_a0, .int nodeCount_a0, .int wrongPlace_a0, va_rf parts_a0, va_rf letters_a0, .int at_a0]))) (k : xw G m_Question_group F L bc bs pr px 39 [none, none, none, none, some (.int x4), some (.ref a5)] [] (xw_up (xw_up (xw_up (xw_up h a5 (.inr (2, [.int kind_a5, va_rf left_a5, va_rf right_a5, .int x1, .int phraseEnd_a5, .int reach_a5, .int columns_a5, .int places_a5, .int rows_a5]))) a5 (.inr (2, [.int kind_a5, va_rf left_a5, va_rf right_a5, .int x1, .int phraseCount_a0, .int reach_a5, .int columns_a5, .int places_a5, .int rows_a5]))) a5 (.inr (2, [.int kind_a5, va_rf left_a5, va_rf right_a5, .int x1, .int phraseCount_a0, .int x2, .int columns_a5, .int places_a5, .int rows_a5]))) a5 (.inr (2, [.int kind_a5, va_rf left_a5, va_rf right_a5, .int x1, .int phraseCount_a0, .int x2, .int x3, .int places_a5, .int rows_a5])))) : xw G m_Question_group F L bc bs pr px 12 [some (.ref a0), some (.int x1), some (.int x2), some (.int x3), some (.int x4), some (.ref a5)] [] h := by
  refine x_aload d_Question_group_12 rfl ?_
  refine x_iload_n d_Question_group_14 rfl rfl ?_
  refine x_put (ty := .int) d_Question_group_15 f_Question_159 fw_Node_3.1 fw_Node_3.2 rfl rfl (Nat.le_of_ble_eq_true rfl) e_a5 ?_
  show xw G m_Question_group F L bc bs pr px 18 [some (.ref a0), some (.int x1), some (.int x2), some (.int x3), some (.int x4), some (.ref a5)] [] (xw_up h a5 (.inr (2, [.int kind_a5, va_rf left_a5, va_rf right_a5, .int x1, .int phraseEnd_a5, .int reach_a5, .int columns_a5, .int places_a5, .int rows_a5])))
  refine x_aload d_Question_group_18 rfl ?_
  refine x_aload_n d_Question_group_20 rfl rfl ?_
  refine x_get d_Question_group_21 f_Question_56 ((xw_up_n _ _ (xw_ne e_a0 e_a5 (by simp))).trans e_a0) rfl ?_
  refine x_put (ty := .int) d_Question_group_24 f_Question_162 fw_Node_4.1 fw_Node_4.2 rfl rfl (Nat.le_of_ble_eq_true rfl) (xw_up_s _ _ _) ?_
  show xw G m_Question_group F L bc bs pr px 27 [some (.ref a0), some (.int x1), some (.int x2), some (.int x3), some (.int x4), some (.ref a5)] [] (xw_up (xw_up h a5 (.inr (2, [.int kind_a5, va_rf left_a5, va_rf right_a5, .int x1, .int phraseEnd_a5, .int reach_a5, .int columns_a5, .int places_a5, .int rows_a5]))) a5 (.inr (2, [.int kind_a5, va_rf left_a5, va_rf right_a5, .int x1, .int phraseCount_a0, .int reach_a5, .int columns_a5, .int places_a5, .int rows_a5])))
  refine x_aload d_Question_group_27 rfl ?_
  refine x_iload_n d_Question_group_29 rfl rfl ?_
  refine x_put (ty := .int) d_Question_group_30 f_Question_165 fw_Node_5.1 fw_Node_5.2 rfl rfl (Nat.le_of_ble_eq_true rfl) (xw_up_s _ _ _) ?_
  show xw G m_Question_group F L bc bs pr px 33 [some (.ref a0), some (.int x1), some (.int x2), some (.int x3), some (.int x4), some (.ref a5)] [] (xw_up (xw_up (xw_up h a5 (.inr (2, [.int kind_a5, va_rf left_a5, va_rf right_a5, .int x1, .int phraseEnd_a5, .int reach_a5, .int columns_a5, .int places_a5, .int rows_a5]))) a5 (.inr (2, [.int kind_a5, va_rf left_a5, va_rf right_a5, .int x1, .int phraseCount_a0, .int reach_a5, .int columns_a5, .int places_a5, .int rows_a5]))) a5 (.inr (2, [.int kind_a5, va_rf left_a5, va_rf right_a5, .int x1, .int phraseCount_a0, .int x2, .int columns_a5, .int places_a5, .int rows_a5])))
  refine x_aload d_Question_group_33 rfl ?_
  refine x_iload_n d_Question_group_35 rfl rfl ?_
  refine x_put (ty := .int) d_Question_group_36 f_Question_168 fw_Node_6.1 fw_Node_6.2 rfl rfl (Nat.le_of_ble_eq_true rfl) (xw_up_s _ _ _) ?_
  show xw G m_Question_group F L bc bs pr px 39 [some (.ref a0), some (.int x1), some (.int x2), some (.int x3), some (.int x4), some (.ref a5)] [] (xw_up (xw_up (xw_up (xw_up h a5 (.inr (2, [.int kind_a5, va_rf left_a5, va_rf right_a5, .int x1, .int phraseEnd_a5, .int reach_a5, .int columns_a5, .int places_a5, .int rows_a5]))) a5 (.inr (2, [.int kind_a5, va_rf left_a5, va_rf right_a5, .int x1, .int phraseCount_a0, .int reach_a5, .int columns_a5, .int places_a5, .int rows_a5]))) a5 (.inr (2, [.int kind_a5, va_rf left_a5, va_rf right_a5, .int x1, .int phraseCount_a0, .int x2, .int columns_a5, .int places_a5, .int rows_a5]))) a5 (.inr (2, [.int kind_a5, va_rf left_a5, va_rf right_a5, .int x1, .int phraseCount_a0, .int x2, .int x3, .int places_a5, .int rows_a5])))
  exact x_le (lv' := [none, none, none, none, some (.int x4), some (.ref a5)]) (xw_le_n (xw_le_n (xw_le_n (xw_le_n (xw_le_s (xw_le_s xw_le_e)))))) (k)
theorem s_Question_group_39 {G : xw_G} {F L bc bs : Nat} {pr : Option Value → xw_A → Prop} {px : String → xw_A → Prop} {h : xw_A} {x4 : Int32} {a5 : Nat} {kind_a5 : Int32} {left_a5 : Option Nat} {right_a5 : Option Nat} {firstPhrase_a5 : Int32} {phraseEnd_a5 : Int32} {reach_a5 : Int32} {columns_a5 : Int32} {places_a5 : Int32} {rows_a5 : Int32} (e_a5 : h a5 = some (.inr (2, [.int kind_a5, va_rf left_a5, va_rf right_a5, .int firstPhrase_a5, .int phraseEnd_a5, .int reach_a5, .int columns_a5, .int places_a5, .int rows_a5]))) (k : xw G m_Question_group F L bc bs pr px 46 [none, none, none, none, none, some (.ref a5)] [] (xw_up h a5 (.inr (2, [.int kind_a5, va_rf left_a5, va_rf right_a5, .int firstPhrase_a5, .int phraseEnd_a5, .int reach_a5, .int columns_a5, .int x4, .int rows_a5])))) : xw G m_Question_group F L bc bs pr px 39 [none, none, none, none, some (.int x4), some (.ref a5)] [] h := by
  refine x_aload d_Question_group_39 rfl ?_
  refine x_iload d_Question_group_41 rfl ?_
  refine x_put (ty := .int) d_Question_group_43 f_Question_171 fw_Node_7.1 fw_Node_7.2 rfl rfl (Nat.le_of_ble_eq_true rfl) e_a5 ?_
  show xw G m_Question_group F L bc bs pr px 46 [none, none, none, none, some (.int x4), some (.ref a5)] [] (xw_up h a5 (.inr (2, [.int kind_a5, va_rf left_a5, va_rf right_a5, .int firstPhrase_a5, .int phraseEnd_a5, .int reach_a5, .int columns_a5, .int x4, .int rows_a5])))
  exact x_le (lv' := [none, none, none, none, none, some (.ref a5)]) (xw_le_n (xw_le_n (xw_le_n (xw_le_n (xw_le_n (xw_le_s xw_le_e)))))) (k)
theorem s_Question_group_46 {G : xw_G} {F L bc bs : Nat} {pr : Option Value → xw_A → Prop} {px : String → xw_A → Prop} {h : xw_A} {r5 : Option Nat}  (kr : pr (some (va_rf r5)) h) : xw G m_Question_group F L bc bs pr px 46 [none, none, none, none, none, some (va_rf r5)] [] h := by
  refine x_aloadq d_Question_group_46 rfl ?_
  exact x_aret d_Question_group_48 rfl (Or.inl ⟨_, rfl⟩) (va_rf_or _) kr
theorem s_Question_newNode_0 {G : xw_G} {F L bc bs : Nat} {pr : Option Value → xw_A → Prop} {px : String → xw_A → Prop} {h : xw_A} {a0 : Nat} {x1 : Int32} {tokens_a0 : Option Nat} {phrases_a0 : Option Nat} {nodes_a0 : Option Nat} {phraseCount_a0 : Int32} {nodeCount_a0 : Int32} {wrongPlace_a0 : Int32} {parts_a0 : Option Nat} {letters_a0 : Option Nat} {at_a0 : Int32} (e_a0 : h a0 = some (.inr (5, [va_rf tokens_a0, va_rf phrases_a0, va_rf nodes_a0, .int phraseCount_a0, .int nodeCount_a0, .int wrongPlace_a0, va_rf parts_a0, va_rf letters_a0, .int at_a0]))) (kt : nodeCount_a0 < 24 → xw G m_Question_newNode F L bc bs pr px 14 [some (.ref a0), some (.int x1), none] [] h) (kf : ¬ nodeCount_a0 < 24 → xw G m_Question_newNode F L bc bs pr px 9 [some (.ref a0), none, none] [] h) : xw G m_Question_newNode F L bc bs pr px 0 [some (.ref a0), some (.int x1), none] [] h := by
  refine x_aload_n d_Question_newNode_0 rfl rfl ?_
  refine x_get d_Question_newNode_1 f_Question_59 e_a0 rfl ?_
  refine x_bipush (v := 24) d_Question_newNode_4 (by decide) ?_
  refine x_icmp_lt (tgt := 14) d_Question_newNode_6 (by decide) (fun hc => ?_) (fun hc => ?_)
  · exact kt hc
  · exact x_le (lv' := [some (.ref a0), none, none]) (xw_le_s (xw_le_n (xw_le_n xw_le_e))) (kf hc)
theorem s_Question_newNode_9 {G : xw_G} {F L bc bs : Nat} {pr : Option Value → xw_A → Prop} {px : String → xw_A → Prop} {h : xw_A} {a0 : Nat}  (k : xw G m_Question_newNode F L bc bs pr px 10 [some (.ref a0), none, none] [.ref a0] h) : xw G m_Question_newNode F L bc bs pr px 9 [some (.ref a0), none, none] [] h := by
  refine x_aload_n d_Question_newNode_9 rfl rfl ?_
  exact k
theorem s_Question_newNode_13 {G : xw_G} {F L bc bs : Nat} {pr : Option Value → xw_A → Prop} {px : String → xw_A → Prop} {h : xw_A} {s0 : Option Nat}  (kr : pr (some (va_rf s0)) h) : xw G m_Question_newNode F L bc bs pr px 13 [none, none, none] [va_rf s0] h := by
  exact x_aret d_Question_newNode_13 rfl (Or.inl ⟨_, rfl⟩) (va_rf_or _) kr
theorem s_Question_newNode_14 {G : xw_G} {F L bc bs : Nat} {pr : Option Value → xw_A → Prop} {px : String → xw_A → Prop} {h : xw_A} {a0 : Nat} {x1 : Int32} {tokens_a0 : Option Nat} {phrases_a0 : Option Nat} {nodes_a0 : Nat} {phraseCount_a0 : Int32} {nodeCount_a0 : Int32} {wrongPlace_a0 : Int32} {parts_a0 : Option Nat} {letters_a0 : Option Nat} {at_a0 : Int32} {n_nodes_a0 : Nat} {f_nodes_a0 : Nat → Option Nat} {g22 : Nat} {kind_g22 : Int32} {left_g22 : Option Nat} {right_g22 : Option Nat} {firstPhrase_g22 : Int32} {phraseEnd_g22 : Int32} {reach_g22 : Int32} {columns_g22 : Int32} {places_g22 : Int32} {rows_g22 : Int32} (e_a0 : h a0 = some (.inr (5, [va_rf tokens_a0, va_rf phrases_a0, .ref nodes_a0, .int phraseCount_a0, .int nodeCount_a0, .int wrongPlace_a0, va_rf parts_a0, va_rf letters_a0, .int at_a0]))) (e_nodes_a0 : h nodes_a0 = some (.inl (2 + 6, n_nodes_a0, .inr (.inr (.inr (.inr f_nodes_a0)))))) (i_22 : vp_in nodeCount_a0 n_nodes_a0) (g_22 : f_nodes_a0 nodeCount_a0.toNatClampNeg = some g22) (e_g22 : h g22 = some (.inr (2, [.int kind_g22, va_rf left_g22, va_rf right_g22, .int firstPhrase_g22, .int phraseEnd_g22, .int reach_g22, .int columns_g22, .int places_g22, .int rows_g22]))) (kr : pr (some (.ref g22)) (xw_up (xw_up h g22 (.inr (2, [.int x1, va_rf left_g22, va_rf right_g22, .int firstPhrase_g22, .int phraseEnd_g22, .int reach_g22, .int columns_g22, .int places_g22, .int rows_g22]))) a0 (.inr (5, [va_rf tokens_a0, va_rf phrases_a0, .ref nodes_a0, .int phraseCount_a0, .int (nodeCount_a0 + 1), .int wrongPlace_a0, va_rf parts_a0, va_rf letters_a0, .int at_a0])))) : xw G m_Question_newNode F L bc bs pr px 14 [some (.ref a0), some (.int x1), none] [] h := by
  refine x_aload_n d_Question_newNode_14 rfl rfl ?_
  refine x_get d_Question_newNode_15 f_Question_30 e_a0 rfl ?_
  refine x_aload_n d_Question_newNode_18 rfl rfl ?_
  refine x_get d_Question_newNode_19 f_Question_59 e_a0 rfl ?_
  refine x_aald (v := .ref g22) d_Question_newNode_22 e_nodes_a0 i_22 (by rw [g_22]; rfl) ?_
  refine x_astore_n d_Question_newNode_23 rfl (by decide) rfl ?_
  show xw G m_Question_newNode F L bc bs pr px 24 [some (.ref a0), some (.int x1), some (.ref g22)] [] h
  refine x_aload_n d_Question_newNode_24 rfl rfl ?_
  refine x_iload_n d_Question_newNode_25 rfl rfl ?_
  refine x_put (ty := .int) d_Question_newNode_26 f_Question_181 fw_Node_0.1 fw_Node_0.2 rfl rfl (Nat.le_of_ble_eq_true rfl) e_g22 ?_
  show xw G m_Question_newNode F L bc bs pr px 29 [some (.ref a0), some (.int x1), some (.ref g22)] [] (xw_up h g22 (.inr (2, [.int x1, va_rf left_g22, va_rf right_g22, .int firstPhrase_g22, .int phraseEnd_g22, .int reach_g22, .int columns_g22, .int places_g22, .int rows_g22])))
  refine x_aload_n d_Question_newNode_29 rfl rfl ?_
  refine x_dup d_Question_newNode_30 rfl ?_
  refine x_get d_Question_newNode_31 f_Question_59 ((xw_up_n _ _ (xw_ne e_a0 e_g22 (by simp))).trans e_a0) rfl ?_
  refine x_iconst (v := 1) d_Question_newNode_34 (by decide) ?_
  refine x_iadd d_Question_newNode_35 ?_
  refine x_put (ty := .int) d_Question_newNode_36 f_Question_59 fw_Question_4.1 fw_Question_4.2 rfl rfl (Nat.le_of_ble_eq_true rfl) ((xw_up_n _ _ (xw_ne e_a0 e_g22 (by simp))).trans e_a0) ?_
  show xw G m_Question_newNode F L bc bs pr px 39 [some (.ref a0), some (.int x1), some (.ref g22)] [] (xw_up (xw_up h g22 (.inr (2, [.int x1, va_rf left_g22, va_rf right_g22, .int firstPhrase_g22, .int phraseEnd_g22, .int reach_g22, .int columns_g22, .int places_g22, .int rows_g22]))) a0 (.inr (5, [va_rf tokens_a0, va_rf phrases_a0, .ref nodes_a0, .int phraseCount_a0, .int (nodeCount_a0 + 1), .int wrongPlace_a0, va_rf parts_a0, va_rf letters_a0, .int at_a0])))
  refine x_aload_n d_Question_newNode_39 rfl rfl ?_
  exact x_aret d_Question_newNode_40 rfl (Or.inl ⟨_, rfl⟩) (Or.inr ⟨_, rfl⟩) kr
theorem s_Question_single_0 {G : xw_G} {F L bc bs : Nat} {pr : Option Value → xw_A → Prop} {px : String → xw_A → Prop} {h : xw_A} {a0 : Nat} {x1 : Int32}  (k : xw G m_Question_single F L bc bs pr px 3 [some (.ref a0), some (.int x1), none, none] [.int 12, .ref a0] h) : xw G m_Question_single F L bc bs pr px 0 [some (.ref a0), some (.int x1), none, none] [] h := by
  refine x_aload_n d_Question_single_0 rfl rfl ?_
  refine x_bipush (v := 12) d_Question_single_1 (by decide) ?_
  exact k
theorem s_Question_single_6 {G : xw_G} {F L bc bs : Nat} {pr : Option Value → xw_A → Prop} {px : String → xw_A → Prop} {h : xw_A} {a0 : Nat} {x1 : Int32} {y0 : Int32}  (kt : y0 = 0 → xw G m_Question_single F L bc bs pr px 13 [some (.ref a0), some (.int x1), none, none] [] h) (kf : ¬ y0 = 0 → xw G m_Question_single F L bc bs pr px 9 [some (.ref a0), some (.int x1), none, none] [] h) : xw G m_Question_single F L bc bs pr px 6 [some (.ref a0), some (.int x1), none, none] [.int y0] h := by
  refine x_if_eq (tgt := 13) d_Question_single_6 (by decide) (fun hc => ?_) (fun hc => ?_)
  · exact kt hc
  · exact kf hc
theorem s_Question_single_9 {G : xw_G} {F L bc bs : Nat} {pr : Option Value → xw_A → Prop} {px : String → xw_A → Prop} {h : xw_A} {a0 : Nat} {x1 : Int32}  (k : xw G m_Question_single F L bc bs pr px 14 [some (.ref a0), some (.int x1), none, none] [.int 1] h) : xw G m_Question_single F L bc bs pr px 9 [some (.ref a0), some (.int x1), none, none] [] h := by
  refine x_iconst (v := 1) d_Question_single_9 (by decide) ?_
  refine x_goto (tgt := 14) d_Question_single_10 (by decide) ?_
  exact k
theorem s_Question_single_13 {G : xw_G} {F L bc bs : Nat} {pr : Option Value → xw_A → Prop} {px : String → xw_A → Prop} {h : xw_A} {a0 : Nat} {x1 : Int32}  (k : xw G m_Question_single F L bc bs pr px 14 [some (.ref a0), some (.int x1), none, none] [.int ((-1))] h) : xw G m_Question_single F L bc bs pr px 13 [some (.ref a0), some (.int x1), none, none] [] h := by
  refine x_iconst (v := -1) d_Question_single_13 (by decide) ?_
  exact k
theorem s_Question_single_14 {G : xw_G} {F L bc bs : Nat} {pr : Option Value → xw_A → Prop} {px : String → xw_A → Prop} {h : xw_A} {a0 : Nat} {x1 : Int32} {y0 : Int32} {tokens_a0 : Option Nat} {phrases_a0 : Option Nat} {nodes_a0 : Option Nat} {phraseCount_a0 : Int32} {nodeCount_a0 : Int32} {wrongPlace_a0 : Int32} {parts_a0 : Option Nat} {letters_a0 : Option Nat} {at_a0 : Int32} (e_a0 : h a0 = some (.inr (5, [va_rf tokens_a0, va_rf phrases_a0, va_rf nodes_a0, .int phraseCount_a0, .int nodeCount_a0, .int wrongPlace_a0, va_rf parts_a0, va_rf letters_a0, .int at_a0]))) (k : xw G m_Question_single F L bc bs pr px 21 [some (.ref a0), some (.int x1), some (.int y0), some (.int phraseCount_a0)] [.ref a0] h) : xw G m_Question_single F L bc bs pr px 14 [some (.ref a0), some (.int x1), none, none] [.int y0] h := by
  refine x_istore_n d_Question_single_14 rfl (by decide) rfl ?_
  show xw G m_Question_single F L bc bs pr px 15 [some (.ref a0), some (.int x1), some (.int y0), none] [] h
  refine x_aload_n d_Question_single_15 rfl rfl ?_
  refine x_get d_Question_single_16 f_Question_56 e_a0 rfl ?_
  refine x_istore_n d_Question_single_19 rfl (by decide) rfl ?_
  show xw G m_Question_single F L bc bs pr px 20 [some (.ref a0), some (.int x1), some (.int y0), some (.int phraseCount_a0)] [] h
  refine x_aload_n d_Question_single_20 rfl rfl ?_
  exact k
theorem s_Question_single_24 {G : xw_G} {F L bc bs : Nat} {pr : Option Value → xw_A → Prop} {px : String → xw_A → Prop} {h : xw_A} {a0 : Nat} {x1 : Int32} {x2 : Int32} {x3 : Int32} {y0 : Int32}  (kt : y0 = 0 → xw G m_Question_single F L bc bs pr px 38 [none, none, none, none] [] h) (kf : ¬ y0 = 0 → xw G m_Question_single F L bc bs pr px 27 [some (.ref a0), some (.int x1), some (.int x2), some (.int x3)] [] h) : xw G m_Question_single F L bc bs pr px 24 [some (.ref a0), some (.int x1), some (.int x2), some (.int x3)] [.int y0] h := by
  refine x_if_eq (tgt := 38) d_Question_single_24 (by decide) (fun hc => ?_) (fun hc => ?_)
  · exact x_le (lv' := [none, none, none, none]) (xw_le_n (xw_le_n (xw_le_n (xw_le_n xw_le_e)))) (kt hc)
  · exact kf hc
theorem s_Question_single_27 {G : xw_G} {F L bc bs : Nat} {pr : Option Value → xw_A → Prop} {px : String → xw_A → Prop} {h : xw_A} {a0 : Nat} {x1 : Int32} {x2 : Int32} {x3 : Int32}  (k : xw G m_Question_single F L bc bs pr px 32 [some (.ref a0), some (.int x1), some (.int x2), some (.int x3)] [.int x2, .int x1, .int 0, .int x3, .ref a0] h) : xw G m_Question_single F L bc bs pr px 27 [some (.ref a0), some (.int x1), some (.int x2), some (.int x3)] [] h := by
  refine x_aload_n d_Question_single_27 rfl rfl ?_
  refine x_iload_n d_Question_single_28 rfl rfl ?_
  refine x_iconst (v := 0) d_Question_single_29 (by decide) ?_
  refine x_iload_n d_Question_single_30 rfl rfl ?_
  refine x_iload_n d_Question_single_31 rfl rfl ?_
  exact k
theorem s_Question_single_35 {G : xw_G} {F L bc bs : Nat} {pr : Option Value → xw_A → Prop} {px : String → xw_A → Prop} {h : xw_A} {s0 : Option Nat}  (k : xw G m_Question_single F L bc bs pr px 39 [none, none, none, none] [va_rf s0] h) : xw G m_Question_single F L bc bs pr px 35 [none, none, none, none] [va_rf s0] h := by
  refine x_goto (tgt := 39) d_Question_single_35 (by decide) ?_
  exact k
theorem s_Question_single_38 {G : xw_G} {F L bc bs : Nat} {pr : Option Value → xw_A → Prop} {px : String → xw_A → Prop} {h : xw_A}   (k : xw G m_Question_single F L bc bs pr px 39 [none, none, none, none] [.null] h) : xw G m_Question_single F L bc bs pr px 38 [none, none, none, none] [] h := by
  refine x_null d_Question_single_38 ?_
  exact k
theorem s_Question_single_39 {G : xw_G} {F L bc bs : Nat} {pr : Option Value → xw_A → Prop} {px : String → xw_A → Prop} {h : xw_A} {s0 : Option Nat}  (kr : pr (some (va_rf s0)) h) : xw G m_Question_single F L bc bs pr px 39 [none, none, none, none] [va_rf s0] h := by
  exact x_aret d_Question_single_39 rfl (Or.inl ⟨_, rfl⟩) (va_rf_or _) kr
theorem s_Question_goesOn_0 {G : xw_G} {F L bc bs : Nat} {pr : Option Value → xw_A → Prop} {px : String → xw_A → Prop} {h : xw_A} {a0 : Nat} {x1 : Int32}  (kt : ¬ x1 = 8 → xw G m_Question_goesOn F L bc bs pr px 13 [some (.ref a0), some (.int x1)] [] h) (kf : x1 = 8 → xw G m_Question_goesOn F L bc bs pr px 6 [some (.ref a0), none] [] h) : xw G m_Question_goesOn F L bc bs pr px 0 [some (.ref a0), some (.int x1)] [] h := by
  refine x_iload_n d_Question_goesOn_0 rfl rfl ?_
  refine x_bipush (v := 8) d_Question_goesOn_1 (by decide) ?_
  refine x_icmp_ne (tgt := 13) d_Question_goesOn_3 (by decide) (fun hc => ?_) (fun hc => ?_)
  · exact kt hc
  · exact x_le (lv' := [some (.ref a0), none]) (xw_le_s (xw_le_n xw_le_e)) (kf hc)
theorem s_Question_goesOn_6 {G : xw_G} {F L bc bs : Nat} {pr : Option Value → xw_A → Prop} {px : String → xw_A → Prop} {h : xw_A} {a0 : Nat}  (k : xw G m_Question_goesOn F L bc bs pr px 7 [some (.ref a0), none] [.ref a0] h) : xw G m_Question_goesOn F L bc bs pr px 6 [some (.ref a0), none] [] h := by
  refine x_aload_n d_Question_goesOn_6 rfl rfl ?_
  exact k
theorem s_Question_goesOn_10 {G : xw_G} {F L bc bs : Nat} {pr : Option Value → xw_A → Prop} {px : String → xw_A → Prop} {h : xw_A} {y0 : Int32}  (k : xw G m_Question_goesOn F L bc bs pr px 18 [none, none] [.int y0] h) : xw G m_Question_goesOn F L bc bs pr px 10 [none, none] [.int y0] h := by
  refine x_goto (tgt := 18) d_Question_goesOn_10 (by decide) ?_
  exact k
theorem s_Question_goesOn_13 {G : xw_G} {F L bc bs : Nat} {pr : Option Value → xw_A → Prop} {px : String → xw_A → Prop} {h : xw_A} {a0 : Nat} {x1 : Int32}  (k : xw G m_Question_goesOn F L bc bs pr px 15 [some (.ref a0), some (.int x1)] [.int x1, .ref a0] h) : xw G m_Question_goesOn F L bc bs pr px 13 [some (.ref a0), some (.int x1)] [] h := by
  refine x_aload_n d_Question_goesOn_13 rfl rfl ?_
  refine x_iload_n d_Question_goesOn_14 rfl rfl ?_
  exact k
theorem s_Question_goesOn_18 {G : xw_G} {F L bc bs : Nat} {pr : Option Value → xw_A → Prop} {px : String → xw_A → Prop} {h : xw_A} {y0 : Int32} (w_18 : narrow .boolean (.int y0) = .int y0) (kr : pr (some (.int y0)) h) : xw G m_Question_goesOn F L bc bs pr px 18 [none, none] [.int y0] h := by
  exact x_zret d_Question_goesOn_18 rfl w_18 kr
theorem s_Question_beginsAtom_0 {G : xw_G} {F L bc bs : Nat} {pr : Option Value → xw_A → Prop} {px : String → xw_A → Prop} {h : xw_A} {a0 : Nat}  (k : xw G m_Question_beginsAtom F L bc bs pr px 1 [some (.ref a0), none] [.ref a0] h) : xw G m_Question_beginsAtom F L bc bs pr px 0 [some (.ref a0), none] [] h := by
  refine x_aload_n d_Question_beginsAtom_0 rfl rfl ?_
  exact k
theorem s_Question_beginsAtom_4 {G : xw_G} {F L bc bs : Nat} {pr : Option Value → xw_A → Prop} {px : String → xw_A → Prop} {h : xw_A} {a0 : Nat} {y0 : Int32}  (k : xw G m_Question_beginsAtom F L bc bs pr px 6 [some (.ref a0), some (.int y0)] [.ref a0] h) : xw G m_Question_beginsAtom F L bc bs pr px 4 [some (.ref a0), none] [.int y0] h := by
  refine x_istore_n d_Question_beginsAtom_4 rfl (by decide) rfl ?_
  show xw G m_Question_beginsAtom F L bc bs pr px 5 [some (.ref a0), some (.int y0)] [] h
  refine x_aload_n d_Question_beginsAtom_5 rfl rfl ?_
  exact k
theorem s_Question_beginsAtom_9 {G : xw_G} {F L bc bs : Nat} {pr : Option Value → xw_A → Prop} {px : String → xw_A → Prop} {h : xw_A} {a0 : Nat} {x1 : Int32} {y0 : Int32}  (kt : ¬ y0 = 0 → xw G m_Question_beginsAtom F L bc bs pr px 31 [none, none] [] h) (kf : y0 = 0 → xw G m_Question_beginsAtom F L bc bs pr px 12 [some (.ref a0), some (.int x1)] [] h) : xw G m_Question_beginsAtom F L bc bs pr px 9 [some (.ref a0), some (.int x1)] [.int y0] h := by
  refine x_if_ne (tgt := 31) d_Question_beginsAtom_9 (by decide) (fun hc => ?_) (fun hc => ?_)
  · exact x_le (lv' := [none, none]) (xw_le_n (xw_le_n xw_le_e)) (kt hc)
  · exact kf hc
theorem s_Question_beginsAtom_12 {G : xw_G} {F L bc bs : Nat} {pr : Option Value → xw_A → Prop} {px : String → xw_A → Prop} {h : xw_A} {a0 : Nat} {x1 : Int32}  (k : xw G m_Question_beginsAtom F L bc bs pr px 13 [some (.ref a0), some (.int x1)] [.ref a0] h) : xw G m_Question_beginsAtom F L bc bs pr px 12 [some (.ref a0), some (.int x1)] [] h := by
  refine x_aload_n d_Question_beginsAtom_12 rfl rfl ?_
  exact k
theorem s_Question_beginsAtom_16 {G : xw_G} {F L bc bs : Nat} {pr : Option Value → xw_A → Prop} {px : String → xw_A → Prop} {h : xw_A} {x1 : Int32} {y0 : Int32}  (kt : ¬ y0 = 0 → xw G m_Question_beginsAtom F L bc bs pr px 31 [none, none] [] h) (kf : y0 = 0 → xw G m_Question_beginsAtom F L bc bs pr px 19 [none, some (.int x1)] [] h) : xw G m_Question_beginsAtom F L bc bs pr px 16 [none, some (.int x1)] [.int y0] h := by
  refine x_if_ne (tgt := 31) d_Question_beginsAtom_16 (by decide) (fun hc => ?_) (fun hc => ?_)
  · exact x_le (lv' := [none, none]) (xw_le_n (xw_le_n xw_le_e)) (kt hc)
  · exact kf hc
theorem s_Question_beginsAtom_19 {G : xw_G} {F L bc bs : Nat} {pr : Option Value → xw_A → Prop} {px : String → xw_A → Prop} {h : xw_A} {x1 : Int32}  (kt : x1 = 12 → xw G m_Question_beginsAtom F L bc bs pr px 31 [none, none] [] h) (kf : ¬ x1 = 12 → xw G m_Question_beginsAtom F L bc bs pr px 25 [none, some (.int x1)] [] h) : xw G m_Question_beginsAtom F L bc bs pr px 19 [none, some (.int x1)] [] h := by
  refine x_iload_n d_Question_beginsAtom_19 rfl rfl ?_
  refine x_bipush (v := 12) d_Question_beginsAtom_20 (by decide) ?_
  refine x_icmp_eq (tgt := 31) d_Question_beginsAtom_22 (by decide) (fun hc => ?_) (fun hc => ?_)
  · exact x_le (lv' := [none, none]) (xw_le_n (xw_le_n xw_le_e)) (kt hc)
  · exact kf hc
theorem s_Question_beginsAtom_25 {G : xw_G} {F L bc bs : Nat} {pr : Option Value → xw_A → Prop} {px : String → xw_A → Prop} {h : xw_A} {x1 : Int32}  (kt : ¬ x1 = 8 → xw G m_Question_beginsAtom F L bc bs pr px 35 [none, none] [] h) (kf : x1 = 8 → xw G m_Question_beginsAtom F L bc bs pr px 31 [none, none] [] h) : xw G m_Question_beginsAtom F L bc bs pr px 25 [none, some (.int x1)] [] h := by
  refine x_iload_n d_Question_beginsAtom_25 rfl rfl ?_
  refine x_bipush (v := 8) d_Question_beginsAtom_26 (by decide) ?_
  refine x_icmp_ne (tgt := 35) d_Question_beginsAtom_28 (by decide) (fun hc => ?_) (fun hc => ?_)
  · exact x_le (lv' := [none, none]) (xw_le_n (xw_le_n xw_le_e)) (kt hc)
  · exact x_le (lv' := [none, none]) (xw_le_n (xw_le_n xw_le_e)) (kf hc)
theorem s_Question_beginsAtom_31 {G : xw_G} {F L bc bs : Nat} {pr : Option Value → xw_A → Prop} {px : String → xw_A → Prop} {h : xw_A}   (k : xw G m_Question_beginsAtom F L bc bs pr px 36 [none, none] [.int 1] h) : xw G m_Question_beginsAtom F L bc bs pr px 31 [none, none] [] h := by
  refine x_iconst (v := 1) d_Question_beginsAtom_31 (by decide) ?_
  refine x_goto (tgt := 36) d_Question_beginsAtom_32 (by decide) ?_
  exact k
theorem s_Question_beginsAtom_35 {G : xw_G} {F L bc bs : Nat} {pr : Option Value → xw_A → Prop} {px : String → xw_A → Prop} {h : xw_A}   (k : xw G m_Question_beginsAtom F L bc bs pr px 36 [none, none] [.int 0] h) : xw G m_Question_beginsAtom F L bc bs pr px 35 [none, none] [] h := by
  refine x_iconst (v := 0) d_Question_beginsAtom_35 (by decide) ?_
  exact k
theorem s_Question_beginsAtom_36 {G : xw_G} {F L bc bs : Nat} {pr : Option Value → xw_A → Prop} {px : String → xw_A → Prop} {h : xw_A} {y0 : Int32} (w_36 : narrow .boolean (.int y0) = .int y0) (kr : pr (some (.int y0)) h) : xw G m_Question_beginsAtom F L bc bs pr px 36 [none, none] [.int y0] h := by
  exact x_zret d_Question_beginsAtom_36 rfl w_36 kr
theorem s_Question_join_0 {G : xw_G} {F L bc bs : Nat} {pr : Option Value → xw_A → Prop} {px : String → xw_A → Prop} {h : xw_A} {a0 : Nat} {x1 : Int32} {a2 : Nat} {a3 : Nat}  (kt : ¬ x1 = 8 → xw G m_Question_join F L bc bs pr px 12 [none, some (.int x1), some (.ref a2), some (.ref a3), none] [.ref a0] h) (kf : x1 = 8 → xw G m_Question_join F L bc bs pr px 7 [none, none, some (.ref a2), some (.ref a3), none] [.ref a0] h) : xw G m_Question_join F L bc bs pr px 0 [some (.ref a0), some (.int x1), some (.ref a2), some (.ref a3), none] [] h := by
  refine x_aload_n d_Question_join_0 rfl rfl ?_
  refine x_iload_n d_Question_join_1 rfl rfl ?_
  refine x_bipush (v := 8) d_Question_join_2 (by decide) ?_
  refine x_icmp_ne (tgt := 12) d_Question_join_4 (by decide) (fun hc => ?_) (fun hc => ?_)
  · exact x_le (lv' := [none, some (.int x1), some (.ref a2), some (.ref a3), none]) (xw_le_n (xw_le_s (xw_le_s (xw_le_s (xw_le_n xw_le_e))))) (kt hc)
  · exact x_le (lv' := [none, none, some (.ref a2), some (.ref a3), none]) (xw_le_n (xw_le_n (xw_le_s (xw_le_s (xw_le_n xw_le_e))))) (kf hc)
theorem s_Question_join_7 {G : xw_G} {F L bc bs : Nat} {pr : Option Value → xw_A → Prop} {px : String → xw_A → Prop} {h : xw_A} {a2 : Nat} {a3 : Nat} {b0 : Nat}  (k : xw G m_Question_join F L bc bs pr px 13 [none, none, some (.ref a2), some (.ref a3), none] [.int 6, .ref b0] h) : xw G m_Question_join F L bc bs pr px 7 [none, none, some (.ref a2), some (.ref a3), none] [.ref b0] h := by
  refine x_bipush (v := 6) d_Question_join_7 (by decide) ?_
  refine x_goto (tgt := 13) d_Question_join_9 (by decide) ?_
  exact k
theorem s_Question_join_12 {G : xw_G} {F L bc bs : Nat} {pr : Option Value → xw_A → Prop} {px : String → xw_A → Prop} {h : xw_A} {x1 : Int32} {a2 : Nat} {a3 : Nat} {b0 : Nat}  (k : xw G m_Question_join F L bc bs pr px 13 [none, none, some (.ref a2), some (.ref a3), none] [.int x1, .ref b0] h) : xw G m_Question_join F L bc bs pr px 12 [none, some (.int x1), some (.ref a2), some (.ref a3), none] [.ref b0] h := by
  refine x_iload_n d_Question_join_12 rfl rfl ?_
  exact x_le (lv' := [none, none, some (.ref a2), some (.ref a3), none]) (xw_le_n (xw_le_n (xw_le_s (xw_le_s (xw_le_n xw_le_e))))) (k)
theorem s_Question_join_16 {G : xw_G} {F L bc bs : Nat} {pr : Option Value → xw_A → Prop} {px : String → xw_A → Prop} {h : xw_A} {a2 : Nat} {a3 : Nat} {s0 : Option Nat}  (kn : s0 = none → xw G m_Question_join F L bc bs pr px 35 [none, none, none, none, some (va_rf s0)] [] h) (ks : ∀ a9 : Nat, s0 = some a9 → xw G m_Question_join F L bc bs pr px 23 [none, none, some (.ref a2), some (.ref a3), some (va_rf s0)] [] h) : xw G m_Question_join F L bc bs pr px 16 [none, none, some (.ref a2), some (.ref a3), none] [va_rf s0] h := by
  refine x_astoreq d_Question_join_16 (by decide) rfl ?_
  show xw G m_Question_join F L bc bs pr px 18 [none, none, some (.ref a2), some (.ref a3), some (va_rf s0)] [] h
  refine x_aloadq d_Question_join_18 rfl ?_
  refine x_ifnullq (tgt := 35) d_Question_join_20 (by decide) (fun hc => ?_) (fun a9 hc => ?_)
  · exact x_le (lv' := [none, none, none, none, some (va_rf s0)]) (xw_le_n (xw_le_n (xw_le_n (xw_le_n (xw_le_s xw_le_e))))) (kn hc)
  · exact ks a9 hc
theorem s_Question_join_23 {G : xw_G} {F L bc bs : Nat} {pr : Option Value → xw_A → Prop} {px : String → xw_A → Prop} {h : xw_A} {a2 : Nat} {a3 : Nat} {a4 : Nat} {kind_a4 : Int32} {left_a4 : Option Nat} {right_a4 : Option Nat} {firstPhrase_a4 : Int32} {phraseEnd_a4 : Int32} {reach_a4 : Int32} {columns_a4 : Int32} {places_a4 : Int32} {rows_a4 : Int32} (e_a4 : h a4 = some (.inr (2, [.int kind_a4, va_rf left_a4, va_rf right_a4, .int firstPhrase_a4, .int phraseEnd_a4, .int reach_a4, .int columns_a4, .int places_a4, .int rows_a4]))) (k : xw G m_Question_join F L bc bs pr px 35 [none, none, none, none, some (.ref a4)] [] (xw_up (xw_up h a4 (.inr (2, [.int kind_a4, .ref a2, va_rf right_a4, .int firstPhrase_a4, .int phraseEnd_a4, .int reach_a4, .int columns_a4, .int places_a4, .int rows_a4]))) a4 (.inr (2, [.int kind_a4, .ref a2, .ref a3, .int firstPhrase_a4, .int phraseEnd_a4, .int reach_a4, .int columns_a4, .int places_a4, .int rows_a4])))) : xw G m_Question_join F L bc bs pr px 23 [none, none, some (.ref a2), some (.ref a3), some (.ref a4)] [] h := by
  refine x_aload d_Question_join_23 rfl ?_
  refine x_aload_n d_Question_join_25 rfl rfl ?_
  refine x_put (ty := (.object "PhraseShelf$Node")) d_Question_join_26 f_Question_174 fw_Node_1.1 fw_Node_1.2 rfl rfl (Nat.le_of_ble_eq_true rfl) e_a4 ?_
  show xw G m_Question_join F L bc bs pr px 29 [none, none, some (.ref a2), some (.ref a3), some (.ref a4)] [] (xw_up h a4 (.inr (2, [.int kind_a4, .ref a2, va_rf right_a4, .int firstPhrase_a4, .int phraseEnd_a4, .int reach_a4, .int columns_a4, .int places_a4, .int rows_a4])))
  refine x_aload d_Question_join_29 rfl ?_
  refine x_aload_n d_Question_join_31 rfl rfl ?_
  refine x_put (ty := (.object "PhraseShelf$Node")) d_Question_join_32 f_Question_178 fw_Node_2.1 fw_Node_2.2 rfl rfl (Nat.le_of_ble_eq_true rfl) (xw_up_s _ _ _) ?_
  show xw G m_Question_join F L bc bs pr px 35 [none, none, some (.ref a2), some (.ref a3), some (.ref a4)] [] (xw_up (xw_up h a4 (.inr (2, [.int kind_a4, .ref a2, va_rf right_a4, .int firstPhrase_a4, .int phraseEnd_a4, .int reach_a4, .int columns_a4, .int places_a4, .int rows_a4]))) a4 (.inr (2, [.int kind_a4, .ref a2, .ref a3, .int firstPhrase_a4, .int phraseEnd_a4, .int reach_a4, .int columns_a4, .int places_a4, .int rows_a4])))
  exact x_le (lv' := [none, none, none, none, some (.ref a4)]) (xw_le_n (xw_le_n (xw_le_n (xw_le_n (xw_le_s xw_le_e))))) (k)
theorem s_Question_join_35 {G : xw_G} {F L bc bs : Nat} {pr : Option Value → xw_A → Prop} {px : String → xw_A → Prop} {h : xw_A} {r4 : Option Nat}  (kr : pr (some (va_rf r4)) h) : xw G m_Question_join F L bc bs pr px 35 [none, none, none, none, some (va_rf r4)] [] h := by
  refine x_aloadq d_Question_join_35 rfl ?_
  exact x_aret d_Question_join_37 rfl (Or.inl ⟨_, rfl⟩) (va_rf_or _) kr
