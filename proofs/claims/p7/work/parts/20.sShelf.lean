/-! blocks of Shelf: by program -/
theorem s_Shelf_init_0 {G : xw_G} {F L bc bs : Nat} {pr : Option Value → xw_A → Prop} {px : String → xw_A → Prop} {h : xw_A} {a0 : Nat} {draft_a0 : Option Nat} {texts_a0 : Option Nat} {weights_a0 : Option Nat} {store_a0 : Option Nat} {saved_a0 : Option Nat} {question_a0 : Option Nat} {standing_a0 : Option Nat} {answers_a0 : Option Nat} {draftLength_a0 : Int32} {most_a0 : Int32} {limit_a0 : Int32} {open_a0 : Int32} {wrongPlace_a0 : Int32} {goodPhrases_a0 : Int32} (r_1 : 1 ≤ F ∧ 0 + 12 ≤ L) (u_7 : 1 ≤ bc ∧ 96 ≤ bs) (e_a0 : h a0 = some (.inr (0, [va_rf draft_a0, va_rf texts_a0, va_rf weights_a0, va_rf store_a0, va_rf saved_a0, va_rf question_a0, va_rf standing_a0, va_rf answers_a0, .int draftLength_a0, .int most_a0, .int limit_a0, .int open_a0, .int wrongPlace_a0, .int goodPhrases_a0]))) (u_14 : 1 ≤ (bc - 1) ∧ 2 ≤ (bs - 96)) (k : ∀ q7 : Nat, h q7 = none → ∀ q14 : Nat, (xw_up (xw_up h q7 (.inl (1, 96, .inl ((fun _ => 0))))) a0 (.inr (0, [.ref q7, va_rf texts_a0, va_rf weights_a0, va_rf store_a0, va_rf saved_a0, va_rf question_a0, va_rf standing_a0, va_rf answers_a0, .int draftLength_a0, .int most_a0, .int limit_a0, .int open_a0, .int wrongPlace_a0, .int goodPhrases_a0]))) q14 = none → xw G m_Shelf_init F L ((bc - 1) - 1) ((bs - 96) - 2) pr px 20 [some (.ref a0), none] [] (xw_up (xw_up (xw_up (xw_up h q7 (.inl (1, 96, .inl ((fun _ => 0))))) a0 (.inr (0, [.ref q7, va_rf texts_a0, va_rf weights_a0, va_rf store_a0, va_rf saved_a0, va_rf question_a0, va_rf standing_a0, va_rf answers_a0, .int draftLength_a0, .int most_a0, .int limit_a0, .int open_a0, .int wrongPlace_a0, .int goodPhrases_a0]))) q14 (.inl (9 + 6, 2, .inr (.inr (.inr (.inr ((fun _ => none)))))))) a0 (.inr (0, [.ref q7, .ref q14, va_rf weights_a0, va_rf store_a0, va_rf saved_a0, va_rf question_a0, va_rf standing_a0, va_rf answers_a0, .int draftLength_a0, .int most_a0, .int limit_a0, .int open_a0, .int wrongPlace_a0, .int goodPhrases_a0])))) : xw G m_Shelf_init F L bc bs pr px 0 [some (.ref a0), none] [] h := by
  refine x_aload_n d_Shelf_init_0 rfl rfl ?_
  refine x_objInit d_Shelf_init_1 oi_Shelf r_1.1 (by simpa [Value.category] using r_1.2) ?_
  refine x_aload_n d_Shelf_init_4 rfl rfl ?_
  refine x_bipush (v := 96) d_Shelf_init_5 (by decide) ?_
  refine x_cnew (N := 96) d_Shelf_init_7 (by decide +kernel) (by decide) (by decide) (by decide) u_7 (fun q7 hq7 => ?_)
  show xw G m_Shelf_init F L (bc - 1) (bs - 96) pr px 9 [some (.ref a0), none] [.ref q7, .ref a0] (xw_up h q7 (.inl (1, 96, .inl ((fun _ => 0)))))
  refine x_putF (ty := (.array .char)) d_Shelf_init_9 f_Shelf_9 fw_Shelf_0.1 rfl rfl fw_Shelf_0.2 rfl rfl (Nat.le_of_ble_eq_true rfl) ((xw_up_n _ _ (xw_neN e_a0 hq7)).trans e_a0) ?_
  show xw G m_Shelf_init F L (bc - 1) (bs - 96) pr px 12 [some (.ref a0), none] [] (xw_up (xw_up h q7 (.inl (1, 96, .inl ((fun _ => 0))))) a0 (.inr (0, [.ref q7, va_rf texts_a0, va_rf weights_a0, va_rf store_a0, va_rf saved_a0, va_rf question_a0, va_rf standing_a0, va_rf answers_a0, .int draftLength_a0, .int most_a0, .int limit_a0, .int open_a0, .int wrongPlace_a0, .int goodPhrases_a0])))
  refine x_aload_n d_Shelf_init_12 rfl rfl ?_
  refine x_iconst (v := 2) d_Shelf_init_13 (by decide) ?_
  refine x_anew (ci := 9) (N := 2) d_Shelf_init_14 (by decide) an_Shelf_13 ao_Tokens (by decide) (by decide) (by decide) u_14 (fun q14 hq14 => ?_)
  show xw G m_Shelf_init F L ((bc - 1) - 1) ((bs - 96) - 2) pr px 17 [some (.ref a0), none] [.ref q14, .ref a0] (xw_up (xw_up (xw_up h q7 (.inl (1, 96, .inl ((fun _ => 0))))) a0 (.inr (0, [.ref q7, va_rf texts_a0, va_rf weights_a0, va_rf store_a0, va_rf saved_a0, va_rf question_a0, va_rf standing_a0, va_rf answers_a0, .int draftLength_a0, .int most_a0, .int limit_a0, .int open_a0, .int wrongPlace_a0, .int goodPhrases_a0]))) q14 (.inl (9 + 6, 2, .inr (.inr (.inr (.inr ((fun _ => none))))))))
  refine x_putF (ty := (.array (.object "PhraseShelf$Tokens"))) d_Shelf_init_17 f_Shelf_15 fw_Shelf_1.1 rfl rfl fw_Shelf_1.2 rfl rfl (Nat.le_of_ble_eq_true rfl) ((xw_up_n _ _ (xw_neN (xw_up_s _ _ _) hq14)).trans (xw_up_s _ _ _)) ?_
  show xw G m_Shelf_init F L ((bc - 1) - 1) ((bs - 96) - 2) pr px 20 [some (.ref a0), none] [] (xw_up (xw_up (xw_up (xw_up h q7 (.inl (1, 96, .inl ((fun _ => 0))))) a0 (.inr (0, [.ref q7, va_rf texts_a0, va_rf weights_a0, va_rf store_a0, va_rf saved_a0, va_rf question_a0, va_rf standing_a0, va_rf answers_a0, .int draftLength_a0, .int most_a0, .int limit_a0, .int open_a0, .int wrongPlace_a0, .int goodPhrases_a0]))) q14 (.inl (9 + 6, 2, .inr (.inr (.inr (.inr ((fun _ => none)))))))) a0 (.inr (0, [.ref q7, .ref q14, va_rf weights_a0, va_rf store_a0, va_rf saved_a0, va_rf question_a0, va_rf standing_a0, va_rf answers_a0, .int draftLength_a0, .int most_a0, .int limit_a0, .int open_a0, .int wrongPlace_a0, .int goodPhrases_a0])))
  exact (k q7 hq7 q14 hq14)
theorem s_Shelf_init_20 {G : xw_G} {F L bc bs : Nat} {pr : Option Value → xw_A → Prop} {px : String → xw_A → Prop} {h : xw_A} {a0 : Nat} {draft_a0 : Option Nat} {texts_a0 : Option Nat} {weights_a0 : Option Nat} {store_a0 : Option Nat} {saved_a0 : Option Nat} {question_a0 : Option Nat} {standing_a0 : Option Nat} {answers_a0 : Option Nat} {draftLength_a0 : Int32} {most_a0 : Int32} {limit_a0 : Int32} {open_a0 : Int32} {wrongPlace_a0 : Int32} {goodPhrases_a0 : Int32} (u_22 : 1 ≤ bc ∧ 2 ≤ bs) (e_a0 : h a0 = some (.inr (0, [va_rf draft_a0, va_rf texts_a0, va_rf weights_a0, va_rf store_a0, va_rf saved_a0, va_rf question_a0, va_rf standing_a0, va_rf answers_a0, .int draftLength_a0, .int most_a0, .int limit_a0, .int open_a0, .int wrongPlace_a0, .int goodPhrases_a0]))) (u_28 : 1 ≤ (bc - 1) ∧ 10 ≤ (bs - 2)) (k : ∀ q22 : Nat, h q22 = none → ∀ q28 : Nat, (xw_up (xw_up h q22 (.inl (0, 2, .inl ((fun _ => 0))))) a0 (.inr (0, [va_rf draft_a0, va_rf texts_a0, .ref q22, va_rf store_a0, va_rf saved_a0, va_rf question_a0, va_rf standing_a0, va_rf answers_a0, .int draftLength_a0, .int most_a0, .int limit_a0, .int open_a0, .int wrongPlace_a0, .int goodPhrases_a0]))) q28 = none → xw G m_Shelf_init F L ((bc - 1) - 1) ((bs - 2) - 10) pr px 32 [some (.ref a0), none] [.ref q28, .ref q28, .ref a0] (xw_up (xw_up (xw_up h q22 (.inl (0, 2, .inl ((fun _ => 0))))) a0 (.inr (0, [va_rf draft_a0, va_rf texts_a0, .ref q22, va_rf store_a0, va_rf saved_a0, va_rf question_a0, va_rf standing_a0, va_rf answers_a0, .int draftLength_a0, .int most_a0, .int limit_a0, .int open_a0, .int wrongPlace_a0, .int goodPhrases_a0]))) q28 (.inr (8, [.null, .null, .null, .null, .int 0, .int 0, .int 0, .int 0, .int 0, .int 0])))) : xw G m_Shelf_init F L bc bs pr px 20 [some (.ref a0), none] [] h := by
  refine x_aload_n d_Shelf_init_20 rfl rfl ?_
  refine x_iconst (v := 2) d_Shelf_init_21 (by decide) ?_
  refine x_inew (N := 2) d_Shelf_init_22 (by decide +kernel) (by decide) (by decide) (by decide) u_22 (fun q22 hq22 => ?_)
  show xw G m_Shelf_init F L (bc - 1) (bs - 2) pr px 24 [some (.ref a0), none] [.ref q22, .ref a0] (xw_up h q22 (.inl (0, 2, .inl ((fun _ => 0)))))
  refine x_putF (ty := (.array .int)) d_Shelf_init_24 f_Shelf_19 fw_Shelf_2.1 rfl rfl fw_Shelf_2.2 rfl rfl (Nat.le_of_ble_eq_true rfl) ((xw_up_n _ _ (xw_neN e_a0 hq22)).trans e_a0) ?_
  show xw G m_Shelf_init F L (bc - 1) (bs - 2) pr px 27 [some (.ref a0), none] [] (xw_up (xw_up h q22 (.inl (0, 2, .inl ((fun _ => 0))))) a0 (.inr (0, [va_rf draft_a0, va_rf texts_a0, .ref q22, va_rf store_a0, va_rf saved_a0, va_rf question_a0, va_rf standing_a0, va_rf answers_a0, .int draftLength_a0, .int most_a0, .int limit_a0, .int open_a0, .int wrongPlace_a0, .int goodPhrases_a0])))
  refine x_aload_n d_Shelf_init_27 rfl rfl ?_
  refine x_new (ci := 8) (fs := [.null, .null, .null, .null, .int 0, .int 0, .int 0, .int 0, .int 0, .int 0]) d_Shelf_init_28 (by decide) nw_Shelf_23.1 nw_Shelf_23.2.1 nw_Shelf_23.2.2 df_Store u_28 (fun q28 hq28 => ?_)
  show xw G m_Shelf_init F L ((bc - 1) - 1) ((bs - 2) - 10) pr px 31 [some (.ref a0), none] [.ref q28, .ref a0] (xw_up (xw_up (xw_up h q22 (.inl (0, 2, .inl ((fun _ => 0))))) a0 (.inr (0, [va_rf draft_a0, va_rf texts_a0, .ref q22, va_rf store_a0, va_rf saved_a0, va_rf question_a0, va_rf standing_a0, va_rf answers_a0, .int draftLength_a0, .int most_a0, .int limit_a0, .int open_a0, .int wrongPlace_a0, .int goodPhrases_a0]))) q28 (.inr (8, [.null, .null, .null, .null, .int 0, .int 0, .int 0, .int 0, .int 0, .int 0])))
  refine x_dup d_Shelf_init_31 rfl ?_
  exact (k q22 hq22 q28 hq28)
theorem s_Shelf_init_35 {G : xw_G} {F L bc bs : Nat} {pr : Option Value → xw_A → Prop} {px : String → xw_A → Prop} {h : xw_A} {a0 : Nat} {b0 : Nat} {draft_a0 : Option Nat} {texts_a0 : Option Nat} {weights_a0 : Option Nat} {store_a0 : Option Nat} {saved_a0 : Option Nat} {question_a0 : Option Nat} {standing_a0 : Option Nat} {answers_a0 : Option Nat} {draftLength_a0 : Int32} {most_a0 : Int32} {limit_a0 : Int32} {open_a0 : Int32} {wrongPlace_a0 : Int32} {goodPhrases_a0 : Int32} (e_a0 : h a0 = some (.inr (0, [va_rf draft_a0, va_rf texts_a0, va_rf weights_a0, va_rf store_a0, va_rf saved_a0, va_rf question_a0, va_rf standing_a0, va_rf answers_a0, .int draftLength_a0, .int most_a0, .int limit_a0, .int open_a0, .int wrongPlace_a0, .int goodPhrases_a0]))) (u_39 : 1 ≤ bc ∧ 10 ≤ bs) (k : ∀ q39 : Nat, (xw_up h a0 (.inr (0, [va_rf draft_a0, va_rf texts_a0, va_rf weights_a0, .ref b0, va_rf saved_a0, va_rf question_a0, va_rf standing_a0, va_rf answers_a0, .int draftLength_a0, .int most_a0, .int limit_a0, .int open_a0, .int wrongPlace_a0, .int goodPhrases_a0]))) q39 = none → xw G m_Shelf_init F L (bc - 1) (bs - 10) pr px 43 [some (.ref a0), none] [.ref q39, .ref q39, .ref a0] (xw_up (xw_up h a0 (.inr (0, [va_rf draft_a0, va_rf texts_a0, va_rf weights_a0, .ref b0, va_rf saved_a0, va_rf question_a0, va_rf standing_a0, va_rf answers_a0, .int draftLength_a0, .int most_a0, .int limit_a0, .int open_a0, .int wrongPlace_a0, .int goodPhrases_a0]))) q39 (.inr (8, [.null, .null, .null, .null, .int 0, .int 0, .int 0, .int 0, .int 0, .int 0])))) : xw G m_Shelf_init F L bc bs pr px 35 [some (.ref a0), none] [.ref b0, .ref a0] h := by
  refine x_putF (ty := (.object "PhraseShelf$Store")) d_Shelf_init_35 f_Shelf_26 fw_Shelf_3.1 rfl rfl fw_Shelf_3.2 rfl rfl (Nat.le_of_ble_eq_true rfl) e_a0 ?_
  show xw G m_Shelf_init F L bc bs pr px 38 [some (.ref a0), none] [] (xw_up h a0 (.inr (0, [va_rf draft_a0, va_rf texts_a0, va_rf weights_a0, .ref b0, va_rf saved_a0, va_rf question_a0, va_rf standing_a0, va_rf answers_a0, .int draftLength_a0, .int most_a0, .int limit_a0, .int open_a0, .int wrongPlace_a0, .int goodPhrases_a0])))
  refine x_aload_n d_Shelf_init_38 rfl rfl ?_
  refine x_new (ci := 8) (fs := [.null, .null, .null, .null, .int 0, .int 0, .int 0, .int 0, .int 0, .int 0]) d_Shelf_init_39 (by decide) nw_Shelf_23.1 nw_Shelf_23.2.1 nw_Shelf_23.2.2 df_Store u_39 (fun q39 hq39 => ?_)
  show xw G m_Shelf_init F L (bc - 1) (bs - 10) pr px 42 [some (.ref a0), none] [.ref q39, .ref a0] (xw_up (xw_up h a0 (.inr (0, [va_rf draft_a0, va_rf texts_a0, va_rf weights_a0, .ref b0, va_rf saved_a0, va_rf question_a0, va_rf standing_a0, va_rf answers_a0, .int draftLength_a0, .int most_a0, .int limit_a0, .int open_a0, .int wrongPlace_a0, .int goodPhrases_a0]))) q39 (.inr (8, [.null, .null, .null, .null, .int 0, .int 0, .int 0, .int 0, .int 0, .int 0])))
  refine x_dup d_Shelf_init_42 rfl ?_
  exact (k q39 hq39)
theorem s_Shelf_init_46 {G : xw_G} {F L bc bs : Nat} {pr : Option Value → xw_A → Prop} {px : String → xw_A → Prop} {h : xw_A} {a0 : Nat} {b0 : Nat} {draft_a0 : Option Nat} {texts_a0 : Option Nat} {weights_a0 : Option Nat} {store_a0 : Option Nat} {saved_a0 : Option Nat} {question_a0 : Option Nat} {standing_a0 : Option Nat} {answers_a0 : Option Nat} {draftLength_a0 : Int32} {most_a0 : Int32} {limit_a0 : Int32} {open_a0 : Int32} {wrongPlace_a0 : Int32} {goodPhrases_a0 : Int32} (e_a0 : h a0 = some (.inr (0, [va_rf draft_a0, va_rf texts_a0, va_rf weights_a0, va_rf store_a0, va_rf saved_a0, va_rf question_a0, va_rf standing_a0, va_rf answers_a0, .int draftLength_a0, .int most_a0, .int limit_a0, .int open_a0, .int wrongPlace_a0, .int goodPhrases_a0]))) (u_50 : 1 ≤ bc ∧ 9 ≤ bs) (k : ∀ q50 : Nat, (xw_up h a0 (.inr (0, [va_rf draft_a0, va_rf texts_a0, va_rf weights_a0, va_rf store_a0, .ref b0, va_rf question_a0, va_rf standing_a0, va_rf answers_a0, .int draftLength_a0, .int most_a0, .int limit_a0, .int open_a0, .int wrongPlace_a0, .int goodPhrases_a0]))) q50 = none → xw G m_Shelf_init F L (bc - 1) (bs - 9) pr px 54 [some (.ref a0), none] [.ref q50, .ref q50, .ref a0] (xw_up (xw_up h a0 (.inr (0, [va_rf draft_a0, va_rf texts_a0, va_rf weights_a0, va_rf store_a0, .ref b0, va_rf question_a0, va_rf standing_a0, va_rf answers_a0, .int draftLength_a0, .int most_a0, .int limit_a0, .int open_a0, .int wrongPlace_a0, .int goodPhrases_a0]))) q50 (.inr (5, [.null, .null, .null, .int 0, .int 0, .int 0, .null, .null, .int 0])))) : xw G m_Shelf_init F L bc bs pr px 46 [some (.ref a0), none] [.ref b0, .ref a0] h := by
  refine x_putF (ty := (.object "PhraseShelf$Store")) d_Shelf_init_46 f_Shelf_30 fw_Shelf_4.1 rfl rfl fw_Shelf_4.2 rfl rfl (Nat.le_of_ble_eq_true rfl) e_a0 ?_
  show xw G m_Shelf_init F L bc bs pr px 49 [some (.ref a0), none] [] (xw_up h a0 (.inr (0, [va_rf draft_a0, va_rf texts_a0, va_rf weights_a0, va_rf store_a0, .ref b0, va_rf question_a0, va_rf standing_a0, va_rf answers_a0, .int draftLength_a0, .int most_a0, .int limit_a0, .int open_a0, .int wrongPlace_a0, .int goodPhrases_a0])))
  refine x_aload_n d_Shelf_init_49 rfl rfl ?_
  refine x_new (ci := 5) (fs := [.null, .null, .null, .int 0, .int 0, .int 0, .null, .null, .int 0]) d_Shelf_init_50 (by decide) nw_Shelf_33.1 nw_Shelf_33.2.1 nw_Shelf_33.2.2 df_Question u_50 (fun q50 hq50 => ?_)
  show xw G m_Shelf_init F L (bc - 1) (bs - 9) pr px 53 [some (.ref a0), none] [.ref q50, .ref a0] (xw_up (xw_up h a0 (.inr (0, [va_rf draft_a0, va_rf texts_a0, va_rf weights_a0, va_rf store_a0, .ref b0, va_rf question_a0, va_rf standing_a0, va_rf answers_a0, .int draftLength_a0, .int most_a0, .int limit_a0, .int open_a0, .int wrongPlace_a0, .int goodPhrases_a0]))) q50 (.inr (5, [.null, .null, .null, .int 0, .int 0, .int 0, .null, .null, .int 0])))
  refine x_dup d_Shelf_init_53 rfl ?_
  exact (k q50 hq50)
theorem s_Shelf_init_57 {G : xw_G} {F L bc bs : Nat} {pr : Option Value → xw_A → Prop} {px : String → xw_A → Prop} {h : xw_A} {a0 : Nat} {b0 : Nat} {draft_a0 : Option Nat} {texts_a0 : Option Nat} {weights_a0 : Option Nat} {store_a0 : Option Nat} {saved_a0 : Option Nat} {question_a0 : Option Nat} {standing_a0 : Option Nat} {answers_a0 : Option Nat} {draftLength_a0 : Int32} {most_a0 : Int32} {limit_a0 : Int32} {open_a0 : Int32} {wrongPlace_a0 : Int32} {goodPhrases_a0 : Int32} (e_a0 : h a0 = some (.inr (0, [va_rf draft_a0, va_rf texts_a0, va_rf weights_a0, va_rf store_a0, va_rf saved_a0, va_rf question_a0, va_rf standing_a0, va_rf answers_a0, .int draftLength_a0, .int most_a0, .int limit_a0, .int open_a0, .int wrongPlace_a0, .int goodPhrases_a0]))) (u_61 : 1 ≤ bc ∧ 2 ≤ bs) (k : ∀ q61 : Nat, (xw_up h a0 (.inr (0, [va_rf draft_a0, va_rf texts_a0, va_rf weights_a0, va_rf store_a0, va_rf saved_a0, .ref b0, va_rf standing_a0, va_rf answers_a0, .int draftLength_a0, .int most_a0, .int limit_a0, .int open_a0, .int wrongPlace_a0, .int goodPhrases_a0]))) q61 = none → xw G m_Shelf_init F L (bc - 1) (bs - 2) pr px 65 [some (.ref a0), none] [.ref q61, .ref q61, .ref a0] (xw_up (xw_up h a0 (.inr (0, [va_rf draft_a0, va_rf texts_a0, va_rf weights_a0, va_rf store_a0, va_rf saved_a0, .ref b0, va_rf standing_a0, va_rf answers_a0, .int draftLength_a0, .int most_a0, .int limit_a0, .int open_a0, .int wrongPlace_a0, .int goodPhrases_a0]))) q61 (.inr (7, [.null, .null])))) : xw G m_Shelf_init F L bc bs pr px 57 [some (.ref a0), none] [.ref b0, .ref a0] h := by
  refine x_putF (ty := (.object "PhraseShelf$Question")) d_Shelf_init_57 f_Shelf_36 fw_Shelf_5.1 rfl rfl fw_Shelf_5.2 rfl rfl (Nat.le_of_ble_eq_true rfl) e_a0 ?_
  show xw G m_Shelf_init F L bc bs pr px 60 [some (.ref a0), none] [] (xw_up h a0 (.inr (0, [va_rf draft_a0, va_rf texts_a0, va_rf weights_a0, va_rf store_a0, va_rf saved_a0, .ref b0, va_rf standing_a0, va_rf answers_a0, .int draftLength_a0, .int most_a0, .int limit_a0, .int open_a0, .int wrongPlace_a0, .int goodPhrases_a0])))
  refine x_aload_n d_Shelf_init_60 rfl rfl ?_
  refine x_new (ci := 7) (fs := [.null, .null]) d_Shelf_init_61 (by decide) nw_Shelf_40.1 nw_Shelf_40.2.1 nw_Shelf_40.2.2 df_Standing u_61 (fun q61 hq61 => ?_)
  show xw G m_Shelf_init F L (bc - 1) (bs - 2) pr px 64 [some (.ref a0), none] [.ref q61, .ref a0] (xw_up (xw_up h a0 (.inr (0, [va_rf draft_a0, va_rf texts_a0, va_rf weights_a0, va_rf store_a0, va_rf saved_a0, .ref b0, va_rf standing_a0, va_rf answers_a0, .int draftLength_a0, .int most_a0, .int limit_a0, .int open_a0, .int wrongPlace_a0, .int goodPhrases_a0]))) q61 (.inr (7, [.null, .null])))
  refine x_dup d_Shelf_init_64 rfl ?_
  exact (k q61 hq61)
theorem s_Shelf_init_68 {G : xw_G} {F L bc bs : Nat} {pr : Option Value → xw_A → Prop} {px : String → xw_A → Prop} {h : xw_A} {a0 : Nat} {b0 : Nat} {draft_a0 : Option Nat} {texts_a0 : Option Nat} {weights_a0 : Option Nat} {store_a0 : Option Nat} {saved_a0 : Option Nat} {question_a0 : Option Nat} {standing_a0 : Option Nat} {answers_a0 : Option Nat} {draftLength_a0 : Int32} {most_a0 : Int32} {limit_a0 : Int32} {open_a0 : Int32} {wrongPlace_a0 : Int32} {goodPhrases_a0 : Int32} (e_a0 : h a0 = some (.inr (0, [va_rf draft_a0, va_rf texts_a0, va_rf weights_a0, va_rf store_a0, va_rf saved_a0, va_rf question_a0, va_rf standing_a0, va_rf answers_a0, .int draftLength_a0, .int most_a0, .int limit_a0, .int open_a0, .int wrongPlace_a0, .int goodPhrases_a0]))) (u_72 : 1 ≤ bc ∧ 5 ≤ bs) (k : ∀ q72 : Nat, (xw_up h a0 (.inr (0, [va_rf draft_a0, va_rf texts_a0, va_rf weights_a0, va_rf store_a0, va_rf saved_a0, va_rf question_a0, .ref b0, va_rf answers_a0, .int draftLength_a0, .int most_a0, .int limit_a0, .int open_a0, .int wrongPlace_a0, .int goodPhrases_a0]))) q72 = none → xw G m_Shelf_init F L (bc - 1) (bs - 5) pr px 76 [some (.ref a0), none] [.ref q72, .ref q72, .ref a0] (xw_up (xw_up h a0 (.inr (0, [va_rf draft_a0, va_rf texts_a0, va_rf weights_a0, va_rf store_a0, va_rf saved_a0, va_rf question_a0, .ref b0, va_rf answers_a0, .int draftLength_a0, .int most_a0, .int limit_a0, .int open_a0, .int wrongPlace_a0, .int goodPhrases_a0]))) q72 (.inr (1, [.null, .null, .int 0, .null, .null])))) : xw G m_Shelf_init F L bc bs pr px 68 [some (.ref a0), none] [.ref b0, .ref a0] h := by
  refine x_putF (ty := (.object "PhraseShelf$Standing")) d_Shelf_init_68 f_Shelf_43 fw_Shelf_6.1 rfl rfl fw_Shelf_6.2 rfl rfl (Nat.le_of_ble_eq_true rfl) e_a0 ?_
  show xw G m_Shelf_init F L bc bs pr px 71 [some (.ref a0), none] [] (xw_up h a0 (.inr (0, [va_rf draft_a0, va_rf texts_a0, va_rf weights_a0, va_rf store_a0, va_rf saved_a0, va_rf question_a0, .ref b0, va_rf answers_a0, .int draftLength_a0, .int most_a0, .int limit_a0, .int open_a0, .int wrongPlace_a0, .int goodPhrases_a0])))
  refine x_aload_n d_Shelf_init_71 rfl rfl ?_
  refine x_new (ci := 1) (fs := [.null, .null, .int 0, .null, .null]) d_Shelf_init_72 (by decide) nw_Shelf_47.1 nw_Shelf_47.2.1 nw_Shelf_47.2.2 df_Answers u_72 (fun q72 hq72 => ?_)
  show xw G m_Shelf_init F L (bc - 1) (bs - 5) pr px 75 [some (.ref a0), none] [.ref q72, .ref a0] (xw_up (xw_up h a0 (.inr (0, [va_rf draft_a0, va_rf texts_a0, va_rf weights_a0, va_rf store_a0, va_rf saved_a0, va_rf question_a0, .ref b0, va_rf answers_a0, .int draftLength_a0, .int most_a0, .int limit_a0, .int open_a0, .int wrongPlace_a0, .int goodPhrases_a0]))) q72 (.inr (1, [.null, .null, .int 0, .null, .null])))
  refine x_dup d_Shelf_init_75 rfl ?_
  exact (k q72 hq72)
theorem s_Shelf_init_79 {G : xw_G} {F L bc bs : Nat} {pr : Option Value → xw_A → Prop} {px : String → xw_A → Prop} {h : xw_A} {a0 : Nat} {b0 : Nat} {draft_a0 : Option Nat} {texts_a0 : Option Nat} {weights_a0 : Option Nat} {store_a0 : Option Nat} {saved_a0 : Option Nat} {question_a0 : Option Nat} {standing_a0 : Option Nat} {answers_a0 : Option Nat} {draftLength_a0 : Int32} {most_a0 : Int32} {limit_a0 : Int32} {open_a0 : Int32} {wrongPlace_a0 : Int32} {goodPhrases_a0 : Int32} (e_a0 : h a0 = some (.inr (0, [va_rf draft_a0, va_rf texts_a0, va_rf weights_a0, va_rf store_a0, va_rf saved_a0, va_rf question_a0, va_rf standing_a0, va_rf answers_a0, .int draftLength_a0, .int most_a0, .int limit_a0, .int open_a0, .int wrongPlace_a0, .int goodPhrases_a0]))) (k : xw G m_Shelf_init F L bc bs pr px 84 [some (.ref a0), some (.int 0)] [] (xw_up h a0 (.inr (0, [va_rf draft_a0, va_rf texts_a0, va_rf weights_a0, va_rf store_a0, va_rf saved_a0, va_rf question_a0, va_rf standing_a0, .ref b0, .int draftLength_a0, .int most_a0, .int limit_a0, .int open_a0, .int wrongPlace_a0, .int goodPhrases_a0])))) : xw G m_Shelf_init F L bc bs pr px 79 [some (.ref a0), none] [.ref b0, .ref a0] h := by
  refine x_putF (ty := (.object "PhraseShelf$Answers")) d_Shelf_init_79 f_Shelf_50 fw_Shelf_7.1 rfl rfl fw_Shelf_7.2 rfl rfl (Nat.le_of_ble_eq_true rfl) e_a0 ?_
  show xw G m_Shelf_init F L bc bs pr px 82 [some (.ref a0), none] [] (xw_up h a0 (.inr (0, [va_rf draft_a0, va_rf texts_a0, va_rf weights_a0, va_rf store_a0, va_rf saved_a0, va_rf question_a0, va_rf standing_a0, .ref b0, .int draftLength_a0, .int most_a0, .int limit_a0, .int open_a0, .int wrongPlace_a0, .int goodPhrases_a0])))
  refine x_iconst (v := 0) d_Shelf_init_82 (by decide) ?_
  refine x_istore_n d_Shelf_init_83 rfl (by decide) rfl ?_
  show xw G m_Shelf_init F L bc bs pr px 84 [some (.ref a0), some (.int 0)] [] (xw_up h a0 (.inr (0, [va_rf draft_a0, va_rf texts_a0, va_rf weights_a0, va_rf store_a0, va_rf saved_a0, va_rf question_a0, va_rf standing_a0, .ref b0, .int draftLength_a0, .int most_a0, .int limit_a0, .int open_a0, .int wrongPlace_a0, .int goodPhrases_a0])))
  exact k
theorem s_Shelf_init_84 {G : xw_G} {F L bc bs : Nat} {pr : Option Value → xw_A → Prop} {px : String → xw_A → Prop} {h : xw_A} {a0 : Nat} {x1 : Int32}  (kt : 2 ≤ x1 → xw G m_Shelf_init F L bc bs pr px 116 [some (.ref a0), none] [] h) (kf : ¬ 2 ≤ x1 → xw G m_Shelf_init F L bc bs pr px 89 [some (.ref a0), some (.int x1)] [] h) : xw G m_Shelf_init F L bc bs pr px 84 [some (.ref a0), some (.int x1)] [] h := by
  refine x_iload_n d_Shelf_init_84 rfl rfl ?_
  refine x_iconst (v := 2) d_Shelf_init_85 (by decide) ?_
  refine x_icmp_ge (tgt := 116) d_Shelf_init_86 (by decide) (fun hc => ?_) (fun hc => ?_)
  · exact x_le (lv' := [some (.ref a0), none]) (xw_le_s (xw_le_n xw_le_e)) (kt hc)
  · exact kf hc
theorem s_Shelf_init_89 {G : xw_G} {F L bc bs : Nat} {pr : Option Value → xw_A → Prop} {px : String → xw_A → Prop} {h : xw_A} {a0 : Nat} {x1 : Int32} {draft_a0 : Option Nat} {texts_a0 : Option Nat} {weights_a0 : Option Nat} {store_a0 : Option Nat} {saved_a0 : Option Nat} {question_a0 : Option Nat} {standing_a0 : Option Nat} {answers_a0 : Option Nat} {draftLength_a0 : Int32} {most_a0 : Int32} {limit_a0 : Int32} {open_a0 : Int32} {wrongPlace_a0 : Int32} {goodPhrases_a0 : Int32} (e_a0 : h a0 = some (.inr (0, [va_rf draft_a0, va_rf texts_a0, va_rf weights_a0, va_rf store_a0, va_rf saved_a0, va_rf question_a0, va_rf standing_a0, va_rf answers_a0, .int draftLength_a0, .int most_a0, .int limit_a0, .int open_a0, .int wrongPlace_a0, .int goodPhrases_a0]))) (u_94 : 1 ≤ bc ∧ 3 ≤ bs) (k : ∀ q94 : Nat, h q94 = none → xw G m_Shelf_init F L (bc - 1) (bs - 3) pr px 99 [some (.ref a0), some (.int x1)] [.int 0, .ref q94, .ref q94, .int x1, va_rf texts_a0] (xw_up h q94 (.inr (9, [.null, .null, .int 0])))) : xw G m_Shelf_init F L bc bs pr px 89 [some (.ref a0), some (.int x1)] [] h := by
  refine x_aload_n d_Shelf_init_89 rfl rfl ?_
  refine x_get d_Shelf_init_90 f_Shelf_15 e_a0 rfl ?_
  refine x_iload_n d_Shelf_init_93 rfl rfl ?_
  refine x_new (ci := 9) (fs := [.null, .null, .int 0]) d_Shelf_init_94 (by decide) nw_Shelf_13.1 nw_Shelf_13.2.1 nw_Shelf_13.2.2 df_Tokens u_94 (fun q94 hq94 => ?_)
  show xw G m_Shelf_init F L (bc - 1) (bs - 3) pr px 97 [some (.ref a0), some (.int x1)] [.ref q94, .int x1, va_rf texts_a0] (xw_up h q94 (.inr (9, [.null, .null, .int 0])))
  refine x_dup d_Shelf_init_97 rfl ?_
  refine x_iconst (v := 0) d_Shelf_init_98 (by decide) ?_
  exact (k q94 hq94)
theorem s_Shelf_init_102 {G : xw_G} {F L bc bs : Nat} {pr : Option Value → xw_A → Prop} {px : String → xw_A → Prop} {h : xw_A} {a0 : Nat} {x1 : Int32} {b0 : Nat} {b2 : Nat} {n_b2 : Nat} {f_b2 : Nat → Option Nat} {letters_b0 : Option Nat} {starts_b0 : Option Nat} {count_b0 : Int32} {draft_a0 : Option Nat} {texts_a0 : Option Nat} {weights_a0 : Nat} {store_a0 : Option Nat} {saved_a0 : Option Nat} {question_a0 : Option Nat} {standing_a0 : Option Nat} {answers_a0 : Option Nat} {draftLength_a0 : Int32} {most_a0 : Int32} {limit_a0 : Int32} {open_a0 : Int32} {wrongPlace_a0 : Int32} {goodPhrases_a0 : Int32} {n_weights_a0 : Nat} {f_weights_a0 : Nat → Int32} (e_b2 : h b2 = some (.inl (9 + 6, n_b2, .inr (.inr (.inr (.inr f_b2)))))) (i_102 : vp_in x1 n_b2) (e_b0 : h b0 = some (.inr (9, [va_rf letters_b0, va_rf starts_b0, .int count_b0]))) (e_a0 : h a0 = some (.inr (0, [va_rf draft_a0, va_rf texts_a0, .ref weights_a0, va_rf store_a0, va_rf saved_a0, va_rf question_a0, va_rf standing_a0, va_rf answers_a0, .int draftLength_a0, .int most_a0, .int limit_a0, .int open_a0, .int wrongPlace_a0, .int goodPhrases_a0]))) (e_weights_a0 : h weights_a0 = some (.inl (0, n_weights_a0, .inl f_weights_a0))) (i_109 : vp_in x1 n_weights_a0) (k : xw G m_Shelf_init F L bc bs pr px 84 [some (.ref a0), some (.int (x1 + 1))] [] (xw_up (xw_up h b2 (.inl (9 + 6, n_b2, .inr (.inr (.inr (.inr (va_up f_b2 x1.toNatClampNeg (some b0)))))))) weights_a0 (.inl (0, n_weights_a0, .inl (upd f_weights_a0 (x1).toNatClampNeg 1))))) : xw G m_Shelf_init F L bc bs pr px 102 [some (.ref a0), some (.int x1)] [.ref b0, .int x1, .ref b2] h := by
  refine x_aast d_Shelf_init_102 (by decide) e_b2 e_b0 i_102 ?_
  refine x_aload_n d_Shelf_init_103 rfl rfl ?_
  refine x_get d_Shelf_init_104 f_Shelf_19 ((xw_up_n _ _ (xw_ne e_a0 e_b2 (by simp))).trans e_a0) rfl ?_
  refine x_iload_n d_Shelf_init_107 rfl rfl ?_
  refine x_iconst (v := 1) d_Shelf_init_108 (by decide) ?_
  refine x_iast d_Shelf_init_109 ((xw_up_n _ _ (xw_ne e_weights_a0 e_b2 (by simp))).trans e_weights_a0) i_109 ?_
  refine x_iinc (v := x1 + 1) d_Shelf_init_110 rfl (by rfl) (by decide) rfl ?_
  show xw G m_Shelf_init F L bc bs pr px 113 [some (.ref a0), some (.int (x1 + 1))] [] (xw_up (xw_up h b2 (.inl (9 + 6, n_b2, .inr (.inr (.inr (.inr (va_up f_b2 x1.toNatClampNeg (some b0)))))))) weights_a0 (.inl (0, n_weights_a0, .inl (upd f_weights_a0 (x1).toNatClampNeg 1))))
  refine x_goto (tgt := 84) d_Shelf_init_113 (by decide) ?_
  exact k
theorem s_Shelf_init_116 {G : xw_G} {F L bc bs : Nat} {pr : Option Value → xw_A → Prop} {px : String → xw_A → Prop} {h : xw_A} {a0 : Nat} {draft_a0 : Option Nat} {texts_a0 : Option Nat} {weights_a0 : Option Nat} {store_a0 : Option Nat} {saved_a0 : Option Nat} {question_a0 : Option Nat} {standing_a0 : Option Nat} {answers_a0 : Option Nat} {draftLength_a0 : Int32} {most_a0 : Int32} {limit_a0 : Int32} {open_a0 : Int32} {wrongPlace_a0 : Int32} {goodPhrases_a0 : Int32} (e_a0 : h a0 = some (.inr (0, [va_rf draft_a0, va_rf texts_a0, va_rf weights_a0, va_rf store_a0, va_rf saved_a0, va_rf question_a0, va_rf standing_a0, va_rf answers_a0, .int draftLength_a0, .int most_a0, .int limit_a0, .int open_a0, .int wrongPlace_a0, .int goodPhrases_a0]))) (kr : pr none (xw_up (xw_up (xw_up h a0 (.inr (0, [va_rf draft_a0, va_rf texts_a0, va_rf weights_a0, va_rf store_a0, va_rf saved_a0, va_rf question_a0, va_rf standing_a0, va_rf answers_a0, .int draftLength_a0, .int 3, .int limit_a0, .int open_a0, .int wrongPlace_a0, .int goodPhrases_a0]))) a0 (.inr (0, [va_rf draft_a0, va_rf texts_a0, va_rf weights_a0, va_rf store_a0, va_rf saved_a0, va_rf question_a0, va_rf standing_a0, va_rf answers_a0, .int draftLength_a0, .int 3, .int 20, .int open_a0, .int wrongPlace_a0, .int goodPhrases_a0]))) a0 (.inr (0, [va_rf draft_a0, va_rf texts_a0, va_rf weights_a0, va_rf store_a0, va_rf saved_a0, va_rf question_a0, va_rf standing_a0, va_rf answers_a0, .int draftLength_a0, .int 3, .int 20, .int open_a0, .int ((-1)), .int goodPhrases_a0])))) : xw G m_Shelf_init F L bc bs pr px 116 [some (.ref a0), none] [] h := by
  refine x_aload_n d_Shelf_init_116 rfl rfl ?_
  refine x_iconst (v := 3) d_Shelf_init_117 (by decide) ?_
  refine x_put (ty := .int) d_Shelf_init_118 f_Shelf_57 fw_Shelf_9.1 fw_Shelf_9.2 rfl rfl (Nat.le_of_ble_eq_true rfl) e_a0 ?_
  show xw G m_Shelf_init F L bc bs pr px 121 [some (.ref a0), none] [] (xw_up h a0 (.inr (0, [va_rf draft_a0, va_rf texts_a0, va_rf weights_a0, va_rf store_a0, va_rf saved_a0, va_rf question_a0, va_rf standing_a0, va_rf answers_a0, .int draftLength_a0, .int 3, .int limit_a0, .int open_a0, .int wrongPlace_a0, .int goodPhrases_a0])))
  refine x_aload_n d_Shelf_init_121 rfl rfl ?_
  refine x_bipush (v := 20) d_Shelf_init_122 (by decide) ?_
  refine x_put (ty := .int) d_Shelf_init_124 f_Shelf_61 fw_Shelf_10.1 fw_Shelf_10.2 rfl rfl (Nat.le_of_ble_eq_true rfl) (xw_up_s _ _ _) ?_
  show xw G m_Shelf_init F L bc bs pr px 127 [some (.ref a0), none] [] (xw_up (xw_up h a0 (.inr (0, [va_rf draft_a0, va_rf texts_a0, va_rf weights_a0, va_rf store_a0, va_rf saved_a0, va_rf question_a0, va_rf standing_a0, va_rf answers_a0, .int draftLength_a0, .int 3, .int limit_a0, .int open_a0, .int wrongPlace_a0, .int goodPhrases_a0]))) a0 (.inr (0, [va_rf draft_a0, va_rf texts_a0, va_rf weights_a0, va_rf store_a0, va_rf saved_a0, va_rf question_a0, va_rf standing_a0, va_rf answers_a0, .int draftLength_a0, .int 3, .int 20, .int open_a0, .int wrongPlace_a0, .int goodPhrases_a0])))
  refine x_aload_n d_Shelf_init_127 rfl rfl ?_
  refine x_iconst (v := -1) d_Shelf_init_128 (by decide) ?_
  refine x_put (ty := .int) d_Shelf_init_129 f_Shelf_64 fw_Shelf_12.1 fw_Shelf_12.2 rfl rfl (Nat.le_of_ble_eq_true rfl) (xw_up_s _ _ _) ?_
  show xw G m_Shelf_init F L bc bs pr px 132 [some (.ref a0), none] [] (xw_up (xw_up (xw_up h a0 (.inr (0, [va_rf draft_a0, va_rf texts_a0, va_rf weights_a0, va_rf store_a0, va_rf saved_a0, va_rf question_a0, va_rf standing_a0, va_rf answers_a0, .int draftLength_a0, .int 3, .int limit_a0, .int open_a0, .int wrongPlace_a0, .int goodPhrases_a0]))) a0 (.inr (0, [va_rf draft_a0, va_rf texts_a0, va_rf weights_a0, va_rf store_a0, va_rf saved_a0, va_rf question_a0, va_rf standing_a0, va_rf answers_a0, .int draftLength_a0, .int 3, .int 20, .int open_a0, .int wrongPlace_a0, .int goodPhrases_a0]))) a0 (.inr (0, [va_rf draft_a0, va_rf texts_a0, va_rf weights_a0, va_rf store_a0, va_rf saved_a0, va_rf question_a0, va_rf standing_a0, va_rf answers_a0, .int draftLength_a0, .int 3, .int 20, .int open_a0, .int ((-1)), .int goodPhrases_a0])))
  exact x_vret d_Shelf_init_132 rfl kr
theorem s_Shelf_drop_0 {G : xw_G} {F L bc bs : Nat} {pr : Option Value → xw_A → Prop} {px : String → xw_A → Prop} {h : xw_A} {a0 : Nat} {draft_a0 : Option Nat} {texts_a0 : Option Nat} {weights_a0 : Option Nat} {store_a0 : Option Nat} {saved_a0 : Option Nat} {question_a0 : Option Nat} {standing_a0 : Option Nat} {answers_a0 : Option Nat} {draftLength_a0 : Int32} {most_a0 : Int32} {limit_a0 : Int32} {open_a0 : Int32} {wrongPlace_a0 : Int32} {goodPhrases_a0 : Int32} (e_a0 : h a0 = some (.inr (0, [va_rf draft_a0, va_rf texts_a0, va_rf weights_a0, va_rf store_a0, va_rf saved_a0, va_rf question_a0, va_rf standing_a0, va_rf answers_a0, .int draftLength_a0, .int most_a0, .int limit_a0, .int open_a0, .int wrongPlace_a0, .int goodPhrases_a0]))) (kr : pr (some (.int draftLength_a0)) (xw_up h a0 (.inr (0, [va_rf draft_a0, va_rf texts_a0, va_rf weights_a0, va_rf store_a0, va_rf saved_a0, va_rf question_a0, va_rf standing_a0, va_rf answers_a0, .int 0, .int most_a0, .int limit_a0, .int open_a0, .int wrongPlace_a0, .int goodPhrases_a0])))) : xw G m_Shelf_drop F L bc bs pr px 0 [some (.ref a0), none] [] h := by
  refine x_aload_n d_Shelf_drop_0 rfl rfl ?_
  refine x_get d_Shelf_drop_1 f_Shelf_78 e_a0 rfl ?_
  refine x_istore_n d_Shelf_drop_4 rfl (by decide) rfl ?_
  show xw G m_Shelf_drop F L bc bs pr px 5 [some (.ref a0), some (.int draftLength_a0)] [] h
  refine x_aload_n d_Shelf_drop_5 rfl rfl ?_
  refine x_iconst (v := 0) d_Shelf_drop_6 (by decide) ?_
  refine x_put (ty := .int) d_Shelf_drop_7 f_Shelf_78 fw_Shelf_8.1 fw_Shelf_8.2 rfl rfl (Nat.le_of_ble_eq_true rfl) e_a0 ?_
  show xw G m_Shelf_drop F L bc bs pr px 10 [some (.ref a0), some (.int draftLength_a0)] [] (xw_up h a0 (.inr (0, [va_rf draft_a0, va_rf texts_a0, va_rf weights_a0, va_rf store_a0, va_rf saved_a0, va_rf question_a0, va_rf standing_a0, va_rf answers_a0, .int 0, .int most_a0, .int limit_a0, .int open_a0, .int wrongPlace_a0, .int goodPhrases_a0])))
  refine x_iload_n d_Shelf_drop_10 rfl rfl ?_
  exact x_iret d_Shelf_drop_11 rfl kr
theorem s_Shelf_flush_0 {G : xw_G} {F L bc bs : Nat} {pr : Option Value → xw_A → Prop} {px : String → xw_A → Prop} {h : xw_A} {a0 : Nat} {draft_a0 : Option Nat} {texts_a0 : Option Nat} {weights_a0 : Option Nat} {store_a0 : Option Nat} {saved_a0 : Option Nat} {question_a0 : Option Nat} {standing_a0 : Option Nat} {answers_a0 : Option Nat} {draftLength_a0 : Int32} {most_a0 : Int32} {limit_a0 : Int32} {open_a0 : Int32} {wrongPlace_a0 : Int32} {goodPhrases_a0 : Int32} (e_a0 : h a0 = some (.inr (0, [va_rf draft_a0, va_rf texts_a0, va_rf weights_a0, va_rf store_a0, va_rf saved_a0, va_rf question_a0, va_rf standing_a0, va_rf answers_a0, .int draftLength_a0, .int most_a0, .int limit_a0, .int open_a0, .int wrongPlace_a0, .int goodPhrases_a0]))) (k : xw G m_Shelf_flush F L bc bs pr px 8 [some (.ref a0)] [.int most_a0, va_rf store_a0] h) : xw G m_Shelf_flush F L bc bs pr px 0 [some (.ref a0)] [] h := by
  refine x_aload_n d_Shelf_flush_0 rfl rfl ?_
  refine x_get d_Shelf_flush_1 f_Shelf_26 e_a0 rfl ?_
  refine x_aload_n d_Shelf_flush_4 rfl rfl ?_
  refine x_get d_Shelf_flush_5 f_Shelf_57 e_a0 rfl ?_
  exact k
theorem s_Shelf_flush_11 {G : xw_G} {F L bc bs : Nat} {pr : Option Value → xw_A → Prop} {px : String → xw_A → Prop} {h : xw_A} {a0 : Nat} {draft_a0 : Option Nat} {texts_a0 : Option Nat} {weights_a0 : Option Nat} {store_a0 : Nat} {saved_a0 : Option Nat} {question_a0 : Option Nat} {standing_a0 : Option Nat} {answers_a0 : Option Nat} {draftLength_a0 : Int32} {most_a0 : Int32} {limit_a0 : Int32} {open_a0 : Int32} {wrongPlace_a0 : Int32} {goodPhrases_a0 : Int32} {rows_store_a0 : Option Nat} {pending_store_a0 : Option Nat} {segments_store_a0 : Option Nat} {live_store_a0 : Option Nat} {pendingCount_store_a0 : Int32} {pendingEntries_store_a0 : Int32} {segmentCount_store_a0 : Int32} {versionsMade_store_a0 : Int32} {segmentsMade_store_a0 : Int32} {liveCount_store_a0 : Int32} (e_a0 : h a0 = some (.inr (0, [va_rf draft_a0, va_rf texts_a0, va_rf weights_a0, .ref store_a0, va_rf saved_a0, va_rf question_a0, va_rf standing_a0, va_rf answers_a0, .int draftLength_a0, .int most_a0, .int limit_a0, .int open_a0, .int wrongPlace_a0, .int goodPhrases_a0]))) (e_store_a0 : h store_a0 = some (.inr (8, [va_rf rows_store_a0, va_rf pending_store_a0, va_rf segments_store_a0, va_rf live_store_a0, .int pendingCount_store_a0, .int pendingEntries_store_a0, .int segmentCount_store_a0, .int versionsMade_store_a0, .int segmentsMade_store_a0, .int liveCount_store_a0]))) (kr : pr (some (.int segmentCount_store_a0)) h) : xw G m_Shelf_flush F L bc bs pr px 11 [some (.ref a0)] [] h := by
  refine x_aload_n d_Shelf_flush_11 rfl rfl ?_
  refine x_get d_Shelf_flush_12 f_Shelf_26 e_a0 rfl ?_
  refine x_get d_Shelf_flush_15 f_Shelf_150 e_store_a0 rfl ?_
  exact x_iret d_Shelf_flush_18 rfl kr
theorem s_Shelf_optimize_0 {G : xw_G} {F L bc bs : Nat} {pr : Option Value → xw_A → Prop} {px : String → xw_A → Prop} {h : xw_A} {a0 : Nat} {draft_a0 : Option Nat} {texts_a0 : Option Nat} {weights_a0 : Option Nat} {store_a0 : Option Nat} {saved_a0 : Option Nat} {question_a0 : Option Nat} {standing_a0 : Option Nat} {answers_a0 : Option Nat} {draftLength_a0 : Int32} {most_a0 : Int32} {limit_a0 : Int32} {open_a0 : Int32} {wrongPlace_a0 : Int32} {goodPhrases_a0 : Int32} (e_a0 : h a0 = some (.inr (0, [va_rf draft_a0, va_rf texts_a0, va_rf weights_a0, va_rf store_a0, va_rf saved_a0, va_rf question_a0, va_rf standing_a0, va_rf answers_a0, .int draftLength_a0, .int most_a0, .int limit_a0, .int open_a0, .int wrongPlace_a0, .int goodPhrases_a0]))) (k : xw G m_Shelf_optimize F L bc bs pr px 4 [some (.ref a0)] [va_rf store_a0] h) : xw G m_Shelf_optimize F L bc bs pr px 0 [some (.ref a0)] [] h := by
  refine x_aload_n d_Shelf_optimize_0 rfl rfl ?_
  refine x_get d_Shelf_optimize_1 f_Shelf_26 e_a0 rfl ?_
  exact k
theorem s_Shelf_optimize_7 {G : xw_G} {F L bc bs : Nat} {pr : Option Value → xw_A → Prop} {px : String → xw_A → Prop} {h : xw_A} {y0 : Int32}  (kr : pr (some (.int y0)) h) : xw G m_Shelf_optimize F L bc bs pr px 7 [none] [.int y0] h := by
  exact x_iret d_Shelf_optimize_7 rfl kr
theorem s_Shelf_wrong_0 {G : xw_G} {F L bc bs : Nat} {pr : Option Value → xw_A → Prop} {px : String → xw_A → Prop} {h : xw_A} {a0 : Nat} {draft_a0 : Option Nat} {texts_a0 : Option Nat} {weights_a0 : Option Nat} {store_a0 : Option Nat} {saved_a0 : Option Nat} {question_a0 : Option Nat} {standing_a0 : Option Nat} {answers_a0 : Option Nat} {draftLength_a0 : Int32} {most_a0 : Int32} {limit_a0 : Int32} {open_a0 : Int32} {wrongPlace_a0 : Int32} {goodPhrases_a0 : Int32} (e_a0 : h a0 = some (.inr (0, [va_rf draft_a0, va_rf texts_a0, va_rf weights_a0, va_rf store_a0, va_rf saved_a0, va_rf question_a0, va_rf standing_a0, va_rf answers_a0, .int draftLength_a0, .int most_a0, .int limit_a0, .int open_a0, .int wrongPlace_a0, .int goodPhrases_a0]))) (kr : pr (some (.int wrongPlace_a0)) h) : xw G m_Shelf_wrong F L bc bs pr px 0 [some (.ref a0)] [] h := by
  refine x_aload_n d_Shelf_wrong_0 rfl rfl ?_
  refine x_get d_Shelf_wrong_1 f_Shelf_64 e_a0 rfl ?_
  exact x_iret d_Shelf_wrong_4 rfl kr
theorem s_Shelf_letters_0 {G : xw_G} {F L bc bs : Nat} {pr : Option Value → xw_A → Prop} {px : String → xw_A → Prop} {h : xw_A} {a0 : Nat} {x1 : Int64}  (k : xw G m_Shelf_letters F L bc bs pr px 1 [some (.ref a0), some (.long x1), none, none, none] [.long x1] h) : xw G m_Shelf_letters F L bc bs pr px 0 [some (.ref a0), some (.long x1), none, none, none] [] h := by
  refine x_lload_n d_Shelf_letters_0 rfl rfl ?_
  exact k
theorem s_Shelf_letters_4 {G : xw_G} {F L bc bs : Nat} {pr : Option Value → xw_A → Prop} {px : String → xw_A → Prop} {h : xw_A} {a0 : Nat} {x1 : Int64} {y0 : Int32}  (kt : ¬ y0 = 0 → xw G m_Shelf_letters F L bc bs pr px 19 [some (.ref a0), some (.long x1), none, some (.int y0), none] [] h) (kf : y0 = 0 → xw G m_Shelf_letters F L bc bs pr px 9 [none, none, none, none, none] [] h) : xw G m_Shelf_letters F L bc bs pr px 4 [some (.ref a0), some (.long x1), none, none, none] [.int y0] h := by
  refine x_istore_n d_Shelf_letters_4 rfl (by decide) trivial ?_
  show xw G m_Shelf_letters F L bc bs pr px 5 [some (.ref a0), some (.long x1), none, some (.int y0), none] [] h
  refine x_iload_n d_Shelf_letters_5 rfl rfl ?_
  refine x_if_ne (tgt := 19) d_Shelf_letters_6 (by decide) (fun hc => ?_) (fun hc => ?_)
  · exact kt hc
  · exact x_le (lv' := [none, none, none, none, none]) (xw_le_n (xw_le_n (xw_le_n (xw_le_n (xw_le_n xw_le_e))))) (kf hc)
theorem s_Shelf_letters_19 {G : xw_G} {F L bc bs : Nat} {pr : Option Value → xw_A → Prop} {px : String → xw_A → Prop} {h : xw_A} {a0 : Nat} {x1 : Int64} {x3 : Int32} {draft_a0 : Option Nat} {texts_a0 : Option Nat} {weights_a0 : Option Nat} {store_a0 : Option Nat} {saved_a0 : Option Nat} {question_a0 : Option Nat} {standing_a0 : Option Nat} {answers_a0 : Option Nat} {draftLength_a0 : Int32} {most_a0 : Int32} {limit_a0 : Int32} {open_a0 : Int32} {wrongPlace_a0 : Int32} {goodPhrases_a0 : Int32} (e_a0 : h a0 = some (.inr (0, [va_rf draft_a0, va_rf texts_a0, va_rf weights_a0, va_rf store_a0, va_rf saved_a0, va_rf question_a0, va_rf standing_a0, va_rf answers_a0, .int draftLength_a0, .int most_a0, .int limit_a0, .int open_a0, .int wrongPlace_a0, .int goodPhrases_a0]))) (kt : (draftLength_a0 + x3) ≤ 96 → xw G m_Shelf_letters F L bc bs pr px 40 [some (.ref a0), some (.long x1), none, some (.int x3), none] [] h) (kf : ¬ (draftLength_a0 + x3) ≤ 96 → xw G m_Shelf_letters F L bc bs pr px 30 [none, none, none, none, none] [] h) : xw G m_Shelf_letters F L bc bs pr px 19 [some (.ref a0), some (.long x1), none, some (.int x3), none] [] h := by
  refine x_aload_n d_Shelf_letters_19 rfl rfl ?_
  refine x_get d_Shelf_letters_20 f_Shelf_78 e_a0 rfl ?_
  refine x_iload_n d_Shelf_letters_23 rfl rfl ?_
  refine x_iadd d_Shelf_letters_24 ?_
  refine x_bipush (v := 96) d_Shelf_letters_25 (by decide) ?_
  refine x_icmp_le (tgt := 40) d_Shelf_letters_27 (by decide) (fun hc => ?_) (fun hc => ?_)
  · exact kt hc
  · exact x_le (lv' := [none, none, none, none, none]) (xw_le_n (xw_le_n (xw_le_n (xw_le_n (xw_le_n xw_le_e))))) (kf hc)
theorem s_Shelf_letters_40 {G : xw_G} {F L bc bs : Nat} {pr : Option Value → xw_A → Prop} {px : String → xw_A → Prop} {h : xw_A} {a0 : Nat} {x1 : Int64} {x3 : Int32}  (k : xw G m_Shelf_letters F L bc bs pr px 43 [some (.ref a0), some (.long x1), none, some (.int x3), some (.int 0)] [] h) : xw G m_Shelf_letters F L bc bs pr px 40 [some (.ref a0), some (.long x1), none, some (.int x3), none] [] h := by
  refine x_iconst (v := 0) d_Shelf_letters_40 (by decide) ?_
  refine x_istore d_Shelf_letters_41 (by decide) rfl ?_
  show xw G m_Shelf_letters F L bc bs pr px 43 [some (.ref a0), some (.long x1), none, some (.int x3), some (.int 0)] [] h
  exact k
theorem s_Shelf_letters_43 {G : xw_G} {F L bc bs : Nat} {pr : Option Value → xw_A → Prop} {px : String → xw_A → Prop} {h : xw_A} {a0 : Nat} {x1 : Int64} {x3 : Int32} {x4 : Int32}  (kt : x3 ≤ x4 → xw G m_Shelf_letters F L bc bs pr px 74 [some (.ref a0), none, none, some (.int x3), none] [] h) (kf : ¬ x3 ≤ x4 → xw G m_Shelf_letters F L bc bs pr px 49 [some (.ref a0), some (.long x1), none, some (.int x3), some (.int x4)] [] h) : xw G m_Shelf_letters F L bc bs pr px 43 [some (.ref a0), some (.long x1), none, some (.int x3), some (.int x4)] [] h := by
  refine x_iload d_Shelf_letters_43 rfl ?_
  refine x_iload_n d_Shelf_letters_45 rfl rfl ?_
  refine x_icmp_ge (tgt := 74) d_Shelf_letters_46 (by decide) (fun hc => ?_) (fun hc => ?_)
  · exact x_le (lv' := [some (.ref a0), none, none, some (.int x3), none]) (xw_le_s (xw_le_n (xw_le_n (xw_le_s (xw_le_n xw_le_e))))) (kt hc)
  · exact kf hc
theorem s_Shelf_letters_49 {G : xw_G} {F L bc bs : Nat} {pr : Option Value → xw_A → Prop} {px : String → xw_A → Prop} {h : xw_A} {a0 : Nat} {x1 : Int64} {x3 : Int32} {x4 : Int32} {draft_a0 : Option Nat} {texts_a0 : Option Nat} {weights_a0 : Option Nat} {store_a0 : Option Nat} {saved_a0 : Option Nat} {question_a0 : Option Nat} {standing_a0 : Option Nat} {answers_a0 : Option Nat} {draftLength_a0 : Int32} {most_a0 : Int32} {limit_a0 : Int32} {open_a0 : Int32} {wrongPlace_a0 : Int32} {goodPhrases_a0 : Int32} (e_a0 : h a0 = some (.inr (0, [va_rf draft_a0, va_rf texts_a0, va_rf weights_a0, va_rf store_a0, va_rf saved_a0, va_rf question_a0, va_rf standing_a0, va_rf answers_a0, .int draftLength_a0, .int most_a0, .int limit_a0, .int open_a0, .int wrongPlace_a0, .int goodPhrases_a0]))) (k : xw G m_Shelf_letters F L bc bs pr px 63 [some (.ref a0), some (.long x1), none, some (.int x3), some (.int x4)] [.int x4, .long x1, .int (draftLength_a0 + x4), va_rf draft_a0] h) : xw G m_Shelf_letters F L bc bs pr px 49 [some (.ref a0), some (.long x1), none, some (.int x3), some (.int x4)] [] h := by
  refine x_aload_n d_Shelf_letters_49 rfl rfl ?_
  refine x_get d_Shelf_letters_50 f_Shelf_9 e_a0 rfl ?_
  refine x_aload_n d_Shelf_letters_53 rfl rfl ?_
  refine x_get d_Shelf_letters_54 f_Shelf_78 e_a0 rfl ?_
  refine x_iload d_Shelf_letters_57 rfl ?_
  refine x_iadd d_Shelf_letters_59 ?_
  refine x_lload_n d_Shelf_letters_60 rfl rfl ?_
  refine x_iload d_Shelf_letters_61 rfl ?_
  exact k
theorem s_Shelf_letters_66 {G : xw_G} {F L bc bs : Nat} {pr : Option Value → xw_A → Prop} {px : String → xw_A → Prop} {h : xw_A} {a0 : Nat} {x1 : Int64} {x3 : Int32} {x4 : Int32} {y0 : Int32} {y1 : Int32} {b2 : Nat} {n_b2 : Nat} {f_b2 : Nat → Int32} (e_b2 : h b2 = some (.inl (1, n_b2, .inl f_b2))) (i_67 : vp_in y1 n_b2) (k : xw G m_Shelf_letters F L bc bs pr px 43 [some (.ref a0), some (.long x1), none, some (.int x3), some (.int (x4 + 1))] [] (xw_up h b2 (.inl (1, n_b2, .inl (upd f_b2 (y1).toNatClampNeg (vp_nar .char ((y0.toUInt32 % 65536).toInt32))))))) : xw G m_Shelf_letters F L bc bs pr px 66 [some (.ref a0), some (.long x1), none, some (.int x3), some (.int x4)] [.int y0, .int y1, .ref b2] h := by
  refine x_i2c d_Shelf_letters_66 rfl ?_
  refine x_cast d_Shelf_letters_67 e_b2 i_67 ?_
  refine x_iinc (v := x4 + 1) d_Shelf_letters_68 rfl (by rfl) (by decide) rfl ?_
  show xw G m_Shelf_letters F L bc bs pr px 71 [some (.ref a0), some (.long x1), none, some (.int x3), some (.int (x4 + 1))] [] (xw_up h b2 (.inl (1, n_b2, .inl (upd f_b2 (y1).toNatClampNeg (vp_nar .char ((y0.toUInt32 % 65536).toInt32))))))
  refine x_goto (tgt := 43) d_Shelf_letters_71 (by decide) ?_
  exact k
theorem s_Shelf_letters_74 {G : xw_G} {F L bc bs : Nat} {pr : Option Value → xw_A → Prop} {px : String → xw_A → Prop} {h : xw_A} {a0 : Nat} {x3 : Int32} {draft_a0 : Option Nat} {texts_a0 : Option Nat} {weights_a0 : Option Nat} {store_a0 : Option Nat} {saved_a0 : Option Nat} {question_a0 : Option Nat} {standing_a0 : Option Nat} {answers_a0 : Option Nat} {draftLength_a0 : Int32} {most_a0 : Int32} {limit_a0 : Int32} {open_a0 : Int32} {wrongPlace_a0 : Int32} {goodPhrases_a0 : Int32} (e_a0 : h a0 = some (.inr (0, [va_rf draft_a0, va_rf texts_a0, va_rf weights_a0, va_rf store_a0, va_rf saved_a0, va_rf question_a0, va_rf standing_a0, va_rf answers_a0, .int draftLength_a0, .int most_a0, .int limit_a0, .int open_a0, .int wrongPlace_a0, .int goodPhrases_a0]))) (kr : pr (some (.int (draftLength_a0 + x3))) (xw_up h a0 (.inr (0, [va_rf draft_a0, va_rf texts_a0, va_rf weights_a0, va_rf store_a0, va_rf saved_a0, va_rf question_a0, va_rf standing_a0, va_rf answers_a0, .int (draftLength_a0 + x3), .int most_a0, .int limit_a0, .int open_a0, .int wrongPlace_a0, .int goodPhrases_a0])))) : xw G m_Shelf_letters F L bc bs pr px 74 [some (.ref a0), none, none, some (.int x3), none] [] h := by
  refine x_aload_n d_Shelf_letters_74 rfl rfl ?_
  refine x_dup d_Shelf_letters_75 rfl ?_
  refine x_get d_Shelf_letters_76 f_Shelf_78 e_a0 rfl ?_
  refine x_iload_n d_Shelf_letters_79 rfl rfl ?_
  refine x_iadd d_Shelf_letters_80 ?_
  refine x_put (ty := .int) d_Shelf_letters_81 f_Shelf_78 fw_Shelf_8.1 fw_Shelf_8.2 rfl rfl (Nat.le_of_ble_eq_true rfl) e_a0 ?_
  show xw G m_Shelf_letters F L bc bs pr px 84 [some (.ref a0), none, none, some (.int x3), none] [] (xw_up h a0 (.inr (0, [va_rf draft_a0, va_rf texts_a0, va_rf weights_a0, va_rf store_a0, va_rf saved_a0, va_rf question_a0, va_rf standing_a0, va_rf answers_a0, .int (draftLength_a0 + x3), .int most_a0, .int limit_a0, .int open_a0, .int wrongPlace_a0, .int goodPhrases_a0])))
  refine x_aload_n d_Shelf_letters_84 rfl rfl ?_
  refine x_get d_Shelf_letters_85 f_Shelf_78 (xw_up_s _ _ _) rfl ?_
  exact x_iret d_Shelf_letters_88 rfl kr
theorem s_Shelf_lettersIn_0 {G : xw_G} {F L bc bs : Nat} {pr : Option Value → xw_A → Prop} {px : String → xw_A → Prop} {h : xw_A} {x0 : Int64}  (k : xw G m_Shelf_lettersIn F L bc bs pr px 2 [some (.long x0), none, some (.int 0), none] [] h) : xw G m_Shelf_lettersIn F L bc bs pr px 0 [some (.long x0), none, none, none] [] h := by
  refine x_iconst (v := 0) d_Shelf_lettersIn_0 (by decide) ?_
  refine x_istore_n d_Shelf_lettersIn_1 rfl (by decide) trivial ?_
  show xw G m_Shelf_lettersIn F L bc bs pr px 2 [some (.long x0), none, some (.int 0), none] [] h
  exact k
theorem s_Shelf_lettersIn_2 {G : xw_G} {F L bc bs : Nat} {pr : Option Value → xw_A → Prop} {px : String → xw_A → Prop} {h : xw_A} {x0 : Int64} {x2 : Int32}  (kt : 8 ≤ x2 → xw G m_Shelf_lettersIn F L bc bs pr px 40 [none, none, none, none] [] h) (kf : ¬ 8 ≤ x2 → xw G m_Shelf_lettersIn F L bc bs pr px 8 [some (.long x0), none, some (.int x2), none] [] h) : xw G m_Shelf_lettersIn F L bc bs pr px 2 [some (.long x0), none, some (.int x2), none] [] h := by
  refine x_iload_n d_Shelf_lettersIn_2 rfl rfl ?_
  refine x_bipush (v := 8) d_Shelf_lettersIn_3 (by decide) ?_
  refine x_icmp_ge (tgt := 40) d_Shelf_lettersIn_5 (by decide) (fun hc => ?_) (fun hc => ?_)
  · exact x_le (lv' := [none, none, none, none]) (xw_le_n (xw_le_n (xw_le_n (xw_le_n xw_le_e)))) (kt hc)
  · exact kf hc
theorem s_Shelf_lettersIn_8 {G : xw_G} {F L bc bs : Nat} {pr : Option Value → xw_A → Prop} {px : String → xw_A → Prop} {h : xw_A} {x0 : Int64} {x2 : Int32}  (k : xw G m_Shelf_lettersIn F L bc bs pr px 10 [some (.long x0), none, some (.int x2), none] [.int x2, .long x0] h) : xw G m_Shelf_lettersIn F L bc bs pr px 8 [some (.long x0), none, some (.int x2), none] [] h := by
  refine x_lload_n d_Shelf_lettersIn_8 rfl rfl ?_
  refine x_iload_n d_Shelf_lettersIn_9 rfl rfl ?_
  exact k
theorem s_Shelf_lettersIn_13 {G : xw_G} {F L bc bs : Nat} {pr : Option Value → xw_A → Prop} {px : String → xw_A → Prop} {h : xw_A} {x0 : Int64} {x2 : Int32} {y0 : Int32}  (kt : ¬ y0 = 0 → xw G m_Shelf_lettersIn F L bc bs pr px 20 [some (.long x0), none, some (.int x2), some (.int y0)] [] h) (kf : y0 = 0 → xw G m_Shelf_lettersIn F L bc bs pr px 18 [none, none, some (.int x2), none] [] h) : xw G m_Shelf_lettersIn F L bc bs pr px 13 [some (.long x0), none, some (.int x2), none] [.int y0] h := by
  refine x_istore_n d_Shelf_lettersIn_13 rfl (by decide) rfl ?_
  show xw G m_Shelf_lettersIn F L bc bs pr px 14 [some (.long x0), none, some (.int x2), some (.int y0)] [] h
  refine x_iload_n d_Shelf_lettersIn_14 rfl rfl ?_
  refine x_if_ne (tgt := 20) d_Shelf_lettersIn_15 (by decide) (fun hc => ?_) (fun hc => ?_)
  · exact kt hc
  · exact x_le (lv' := [none, none, some (.int x2), none]) (xw_le_n (xw_le_n (xw_le_s (xw_le_n xw_le_e)))) (kf hc)
theorem s_Shelf_lettersIn_18 {G : xw_G} {F L bc bs : Nat} {pr : Option Value → xw_A → Prop} {px : String → xw_A → Prop} {h : xw_A} {x2 : Int32}  (kr : pr (some (.int x2)) h) : xw G m_Shelf_lettersIn F L bc bs pr px 18 [none, none, some (.int x2), none] [] h := by
  refine x_iload_n d_Shelf_lettersIn_18 rfl rfl ?_
  exact x_iret d_Shelf_lettersIn_19 rfl kr
theorem s_Shelf_lettersIn_20 {G : xw_G} {F L bc bs : Nat} {pr : Option Value → xw_A → Prop} {px : String → xw_A → Prop} {h : xw_A} {x0 : Int64} {x2 : Int32} {x3 : Int32}  (kt : x3 < 32 → xw G m_Shelf_lettersIn F L bc bs pr px 32 [none, none, none, none] [] h) (kf : ¬ x3 < 32 → xw G m_Shelf_lettersIn F L bc bs pr px 26 [some (.long x0), none, some (.int x2), some (.int x3)] [] h) : xw G m_Shelf_lettersIn F L bc bs pr px 20 [some (.long x0), none, some (.int x2), some (.int x3)] [] h := by
  refine x_iload_n d_Shelf_lettersIn_20 rfl rfl ?_
  refine x_bipush (v := 32) d_Shelf_lettersIn_21 (by decide) ?_
  refine x_icmp_lt (tgt := 32) d_Shelf_lettersIn_23 (by decide) (fun hc => ?_) (fun hc => ?_)
  · exact x_le (lv' := [none, none, none, none]) (xw_le_n (xw_le_n (xw_le_n (xw_le_n xw_le_e)))) (kt hc)
  · exact kf hc
theorem s_Shelf_lettersIn_26 {G : xw_G} {F L bc bs : Nat} {pr : Option Value → xw_A → Prop} {px : String → xw_A → Prop} {h : xw_A} {x0 : Int64} {x2 : Int32} {x3 : Int32}  (kt : x3 ≤ 126 → xw G m_Shelf_lettersIn F L bc bs pr px 34 [some (.long x0), none, some (.int x2), none] [] h) (kf : ¬ x3 ≤ 126 → xw G m_Shelf_lettersIn F L bc bs pr px 32 [none, none, none, none] [] h) : xw G m_Shelf_lettersIn F L bc bs pr px 26 [some (.long x0), none, some (.int x2), some (.int x3)] [] h := by
  refine x_iload_n d_Shelf_lettersIn_26 rfl rfl ?_
  refine x_bipush (v := 126) d_Shelf_lettersIn_27 (by decide) ?_
  refine x_icmp_le (tgt := 34) d_Shelf_lettersIn_29 (by decide) (fun hc => ?_) (fun hc => ?_)
  · exact x_le (lv' := [some (.long x0), none, some (.int x2), none]) (xw_le_s (xw_le_n (xw_le_s (xw_le_n xw_le_e)))) (kt hc)
  · exact x_le (lv' := [none, none, none, none]) (xw_le_n (xw_le_n (xw_le_n (xw_le_n xw_le_e)))) (kf hc)
theorem s_Shelf_lettersIn_32 {G : xw_G} {F L bc bs : Nat} {pr : Option Value → xw_A → Prop} {px : String → xw_A → Prop} {h : xw_A}   (kr : pr (some (.int 0)) h) : xw G m_Shelf_lettersIn F L bc bs pr px 32 [none, none, none, none] [] h := by
  refine x_iconst (v := 0) d_Shelf_lettersIn_32 (by decide) ?_
  exact x_iret d_Shelf_lettersIn_33 rfl kr
theorem s_Shelf_lettersIn_34 {G : xw_G} {F L bc bs : Nat} {pr : Option Value → xw_A → Prop} {px : String → xw_A → Prop} {h : xw_A} {x0 : Int64} {x2 : Int32}  (k : xw G m_Shelf_lettersIn F L bc bs pr px 2 [some (.long x0), none, some (.int (x2 + 1)), none] [] h) : xw G m_Shelf_lettersIn F L bc bs pr px 34 [some (.long x0), none, some (.int x2), none] [] h := by
  refine x_iinc (v := x2 + 1) d_Shelf_lettersIn_34 rfl (by rfl) (by decide) trivial ?_
  show xw G m_Shelf_lettersIn F L bc bs pr px 37 [some (.long x0), none, some (.int (x2 + 1)), none] [] h
  refine x_goto (tgt := 2) d_Shelf_lettersIn_37 (by decide) ?_
  exact k
theorem s_Shelf_lettersIn_40 {G : xw_G} {F L bc bs : Nat} {pr : Option Value → xw_A → Prop} {px : String → xw_A → Prop} {h : xw_A}   (kr : pr (some (.int 8)) h) : xw G m_Shelf_lettersIn F L bc bs pr px 40 [none, none, none, none] [] h := by
  refine x_bipush (v := 8) d_Shelf_lettersIn_40 (by decide) ?_
  exact x_iret d_Shelf_lettersIn_42 rfl kr
theorem s_Shelf_octet_0 {G : xw_G} {F L bc bs : Nat} {pr : Option Value → xw_A → Prop} {px : String → xw_A → Prop} {h : xw_A} {x0 : Int64} {x2 : Int32}  (kr : pr (some (.int ((((x0.toUInt64 >>> ((8 * x2).toInt64.toUInt64 &&& Int64.toUInt64 63)).toInt64).toInt32) &&& 255))) h) : xw G m_Shelf_octet F L bc bs pr px 0 [some (.long x0), none, some (.int x2)] [] h := by
  refine x_lload_n d_Shelf_octet_0 rfl rfl ?_
  refine x_bipush (v := 8) d_Shelf_octet_1 (by decide) ?_
  refine x_iload_n d_Shelf_octet_3 rfl rfl ?_
  refine x_imul d_Shelf_octet_4 ?_
  refine x_lushr d_Shelf_octet_5 rfl ?_
  refine x_l2i d_Shelf_octet_6 rfl ?_
  refine x_sipush (v := 255) d_Shelf_octet_7 (by decide) ?_
  refine x_iand d_Shelf_octet_10 ?_
  exact x_iret d_Shelf_octet_11 rfl kr
theorem s_Shelf_set_0 {G : xw_G} {F L bc bs : Nat} {pr : Option Value → xw_A → Prop} {px : String → xw_A → Prop} {h : xw_A} {a0 : Nat} {x1 : Int32}  (k : xw G m_Shelf_set F L bc bs pr px 1 [some (.ref a0), some (.int x1), none] [.int x1] h) : xw G m_Shelf_set F L bc bs pr px 0 [some (.ref a0), some (.int x1), none] [] h := by
  refine x_iload_n d_Shelf_set_0 rfl rfl ?_
  exact k
theorem s_Shelf_set_4 {G : xw_G} {F L bc bs : Nat} {pr : Option Value → xw_A → Prop} {px : String → xw_A → Prop} {h : xw_A} {a0 : Nat} {x1 : Int32} {y0 : Int32}  (kt : ¬ y0 = 0 → xw G m_Shelf_set F L bc bs pr px 17 [some (.ref a0), some (.int x1), none] [] h) (kf : y0 = 0 → xw G m_Shelf_set F L bc bs pr px 7 [none, none, none] [] h) : xw G m_Shelf_set F L bc bs pr px 4 [some (.ref a0), some (.int x1), none] [.int y0] h := by
  refine x_if_ne (tgt := 17) d_Shelf_set_4 (by decide) (fun hc => ?_) (fun hc => ?_)
  · exact kt hc
  · exact x_le (lv' := [none, none, none]) (xw_le_n (xw_le_n (xw_le_n xw_le_e))) (kf hc)
theorem s_Shelf_set_17 {G : xw_G} {F L bc bs : Nat} {pr : Option Value → xw_A → Prop} {px : String → xw_A → Prop} {h : xw_A} {a0 : Nat} {x1 : Int32} {draft_a0 : Option Nat} {texts_a0 : Option Nat} {weights_a0 : Option Nat} {store_a0 : Option Nat} {saved_a0 : Option Nat} {question_a0 : Option Nat} {standing_a0 : Option Nat} {answers_a0 : Option Nat} {draftLength_a0 : Int32} {most_a0 : Int32} {limit_a0 : Int32} {open_a0 : Int32} {wrongPlace_a0 : Int32} {goodPhrases_a0 : Int32} (e_a0 : h a0 = some (.inr (0, [va_rf draft_a0, va_rf texts_a0, va_rf weights_a0, va_rf store_a0, va_rf saved_a0, va_rf question_a0, va_rf standing_a0, va_rf answers_a0, .int draftLength_a0, .int most_a0, .int limit_a0, .int open_a0, .int wrongPlace_a0, .int goodPhrases_a0]))) (kt : draftLength_a0 ≤ 48 → xw G m_Shelf_set F L bc bs pr px 36 [some (.ref a0), some (.int x1), none] [] h) (kf : ¬ draftLength_a0 ≤ 48 → xw G m_Shelf_set F L bc bs pr px 26 [none, none, none] [] h) : xw G m_Shelf_set F L bc bs pr px 17 [some (.ref a0), some (.int x1), none] [] h := by
  refine x_aload_n d_Shelf_set_17 rfl rfl ?_
  refine x_get d_Shelf_set_18 f_Shelf_78 e_a0 rfl ?_
  refine x_bipush (v := 48) d_Shelf_set_21 (by decide) ?_
  refine x_icmp_le (tgt := 36) d_Shelf_set_23 (by decide) (fun hc => ?_) (fun hc => ?_)
  · exact kt hc
  · exact x_le (lv' := [none, none, none]) (xw_le_n (xw_le_n (xw_le_n xw_le_e))) (kf hc)
theorem s_Shelf_set_36 {G : xw_G} {F L bc bs : Nat} {pr : Option Value → xw_A → Prop} {px : String → xw_A → Prop} {h : xw_A} {a0 : Nat} {x1 : Int32} {draft_a0 : Option Nat} {texts_a0 : Option Nat} {weights_a0 : Option Nat} {store_a0 : Option Nat} {saved_a0 : Option Nat} {question_a0 : Option Nat} {standing_a0 : Option Nat} {answers_a0 : Option Nat} {draftLength_a0 : Int32} {most_a0 : Int32} {limit_a0 : Int32} {open_a0 : Int32} {wrongPlace_a0 : Int32} {goodPhrases_a0 : Int32} (u_36 : 1 ≤ bc ∧ 3 ≤ bs) (e_a0 : h a0 = some (.inr (0, [va_rf draft_a0, va_rf texts_a0, va_rf weights_a0, va_rf store_a0, va_rf saved_a0, va_rf question_a0, va_rf standing_a0, va_rf answers_a0, .int draftLength_a0, .int most_a0, .int limit_a0, .int open_a0, .int wrongPlace_a0, .int goodPhrases_a0]))) (k : ∀ q36 : Nat, h q36 = none → xw G m_Shelf_set F L (bc - 1) (bs - 3) pr px 44 [some (.ref a0), some (.int x1), none] [.int draftLength_a0, .ref q36, .ref q36] (xw_up h q36 (.inr (9, [.null, .null, .int 0])))) : xw G m_Shelf_set F L bc bs pr px 36 [some (.ref a0), some (.int x1), none] [] h := by
  refine x_new (ci := 9) (fs := [.null, .null, .int 0]) d_Shelf_set_36 (by decide) nw_Shelf_13.1 nw_Shelf_13.2.1 nw_Shelf_13.2.2 df_Tokens u_36 (fun q36 hq36 => ?_)
  show xw G m_Shelf_set F L (bc - 1) (bs - 3) pr px 39 [some (.ref a0), some (.int x1), none] [.ref q36] (xw_up h q36 (.inr (9, [.null, .null, .int 0])))
  refine x_dup d_Shelf_set_39 rfl ?_
  refine x_aload_n d_Shelf_set_40 rfl rfl ?_
  refine x_get d_Shelf_set_41 f_Shelf_78 ((xw_up_n _ _ (xw_neN e_a0 hq36)).trans e_a0) rfl ?_
  exact (k q36 hq36)
theorem s_Shelf_set_47 {G : xw_G} {F L bc bs : Nat} {pr : Option Value → xw_A → Prop} {px : String → xw_A → Prop} {h : xw_A} {a0 : Nat} {x1 : Int32} {b0 : Nat} {draft_a0 : Option Nat} {texts_a0 : Option Nat} {weights_a0 : Option Nat} {store_a0 : Option Nat} {saved_a0 : Option Nat} {question_a0 : Option Nat} {standing_a0 : Option Nat} {answers_a0 : Option Nat} {draftLength_a0 : Int32} {most_a0 : Int32} {limit_a0 : Int32} {open_a0 : Int32} {wrongPlace_a0 : Int32} {goodPhrases_a0 : Int32} (e_a0 : h a0 = some (.inr (0, [va_rf draft_a0, va_rf texts_a0, va_rf weights_a0, va_rf store_a0, va_rf saved_a0, va_rf question_a0, va_rf standing_a0, va_rf answers_a0, .int draftLength_a0, .int most_a0, .int limit_a0, .int open_a0, .int wrongPlace_a0, .int goodPhrases_a0]))) (k : xw G m_Shelf_set F L bc bs pr px 58 [some (.ref a0), some (.int x1), some (.ref b0)] [.int draftLength_a0, .int 0, va_rf draft_a0, .ref b0] h) : xw G m_Shelf_set F L bc bs pr px 47 [some (.ref a0), some (.int x1), none] [.ref b0] h := by
  refine x_astore_n d_Shelf_set_47 rfl (by decide) rfl ?_
  show xw G m_Shelf_set F L bc bs pr px 48 [some (.ref a0), some (.int x1), some (.ref b0)] [] h
  refine x_aload_n d_Shelf_set_48 rfl rfl ?_
  refine x_aload_n d_Shelf_set_49 rfl rfl ?_
  refine x_get d_Shelf_set_50 f_Shelf_9 e_a0 rfl ?_
  refine x_iconst (v := 0) d_Shelf_set_53 (by decide) ?_
  refine x_aload_n d_Shelf_set_54 rfl rfl ?_
  refine x_get d_Shelf_set_55 f_Shelf_78 e_a0 rfl ?_
  exact k
theorem s_Shelf_set_61 {G : xw_G} {F L bc bs : Nat} {pr : Option Value → xw_A → Prop} {px : String → xw_A → Prop} {h : xw_A} {a0 : Nat} {x1 : Int32} {a2 : Nat} {draft_a0 : Option Nat} {texts_a0 : Nat} {weights_a0 : Option Nat} {store_a0 : Option Nat} {saved_a0 : Option Nat} {question_a0 : Option Nat} {standing_a0 : Option Nat} {answers_a0 : Option Nat} {draftLength_a0 : Int32} {most_a0 : Int32} {limit_a0 : Int32} {open_a0 : Int32} {wrongPlace_a0 : Int32} {goodPhrases_a0 : Int32} {n_texts_a0 : Nat} {f_texts_a0 : Nat → Option Nat} {letters_a2 : Option Nat} {starts_a2 : Option Nat} {count_a2 : Int32} (e_a0 : h a0 = some (.inr (0, [va_rf draft_a0, .ref texts_a0, va_rf weights_a0, va_rf store_a0, va_rf saved_a0, va_rf question_a0, va_rf standing_a0, va_rf answers_a0, .int draftLength_a0, .int most_a0, .int limit_a0, .int open_a0, .int wrongPlace_a0, .int goodPhrases_a0]))) (e_texts_a0 : h texts_a0 = some (.inl (9 + 6, n_texts_a0, .inr (.inr (.inr (.inr f_texts_a0)))))) (i_67 : vp_in x1 n_texts_a0) (e_a2 : h a2 = some (.inr (9, [va_rf letters_a2, va_rf starts_a2, .int count_a2]))) (kr : pr (some (.int count_a2)) (xw_up (xw_up h texts_a0 (.inl (9 + 6, n_texts_a0, .inr (.inr (.inr (.inr (va_up f_texts_a0 x1.toNatClampNeg (some a2)))))))) a0 (.inr (0, [va_rf draft_a0, .ref texts_a0, va_rf weights_a0, va_rf store_a0, va_rf saved_a0, va_rf question_a0, va_rf standing_a0, va_rf answers_a0, .int 0, .int most_a0, .int limit_a0, .int open_a0, .int wrongPlace_a0, .int goodPhrases_a0])))) : xw G m_Shelf_set F L bc bs pr px 61 [some (.ref a0), some (.int x1), some (.ref a2)] [] h := by
  refine x_aload_n d_Shelf_set_61 rfl rfl ?_
  refine x_get d_Shelf_set_62 f_Shelf_15 e_a0 rfl ?_
  refine x_iload_n d_Shelf_set_65 rfl rfl ?_
  refine x_aload_n d_Shelf_set_66 rfl rfl ?_
  refine x_aast d_Shelf_set_67 (by decide) e_texts_a0 e_a2 i_67 ?_
  refine x_aload_n d_Shelf_set_68 rfl rfl ?_
  refine x_iconst (v := 0) d_Shelf_set_69 (by decide) ?_
  refine x_put (ty := .int) d_Shelf_set_70 f_Shelf_78 fw_Shelf_8.1 fw_Shelf_8.2 rfl rfl (Nat.le_of_ble_eq_true rfl) ((xw_up_n _ _ (xw_ne e_a0 e_texts_a0 (by simp))).trans e_a0) ?_
  show xw G m_Shelf_set F L bc bs pr px 73 [some (.ref a0), some (.int x1), some (.ref a2)] [] (xw_up (xw_up h texts_a0 (.inl (9 + 6, n_texts_a0, .inr (.inr (.inr (.inr (va_up f_texts_a0 x1.toNatClampNeg (some a2)))))))) a0 (.inr (0, [va_rf draft_a0, .ref texts_a0, va_rf weights_a0, va_rf store_a0, va_rf saved_a0, va_rf question_a0, va_rf standing_a0, va_rf answers_a0, .int 0, .int most_a0, .int limit_a0, .int open_a0, .int wrongPlace_a0, .int goodPhrases_a0])))
  refine x_aload_n d_Shelf_set_73 rfl rfl ?_
  refine x_get d_Shelf_set_74 f_Shelf_102 ((xw_up_n _ _ (xw_ne e_a2 e_a0 (by simp))).trans ((xw_up_n _ _ (xw_ne e_a2 e_texts_a0 (by simp))).trans e_a2)) rfl ?_
  exact x_iret d_Shelf_set_77 rfl kr
theorem s_Shelf_isColumn_0 {G : xw_G} {F L bc bs : Nat} {pr : Option Value → xw_A → Prop} {px : String → xw_A → Prop} {h : xw_A} {x0 : Int32}  (kt : x0 < 0 → xw G m_Shelf_isColumn F L bc bs pr px 13 [none] [] h) (kf : ¬ x0 < 0 → xw G m_Shelf_isColumn F L bc bs pr px 4 [some (.int x0)] [] h) : xw G m_Shelf_isColumn F L bc bs pr px 0 [some (.int x0)] [] h := by
  refine x_iload_n d_Shelf_isColumn_0 rfl rfl ?_
  refine x_if_lt (tgt := 13) d_Shelf_isColumn_1 (by decide) (fun hc => ?_) (fun hc => ?_)
  · exact x_le (lv' := [none]) (xw_le_n xw_le_e) (kt hc)
  · exact kf hc
theorem s_Shelf_isColumn_4 {G : xw_G} {F L bc bs : Nat} {pr : Option Value → xw_A → Prop} {px : String → xw_A → Prop} {h : xw_A} {x0 : Int32}  (kt : 2 ≤ x0 → xw G m_Shelf_isColumn F L bc bs pr px 13 [none] [] h) (kf : ¬ 2 ≤ x0 → xw G m_Shelf_isColumn F L bc bs pr px 9 [none] [] h) : xw G m_Shelf_isColumn F L bc bs pr px 4 [some (.int x0)] [] h := by
  refine x_iload_n d_Shelf_isColumn_4 rfl rfl ?_
  refine x_iconst (v := 2) d_Shelf_isColumn_5 (by decide) ?_
  refine x_icmp_ge (tgt := 13) d_Shelf_isColumn_6 (by decide) (fun hc => ?_) (fun hc => ?_)
  · exact x_le (lv' := [none]) (xw_le_n xw_le_e) (kt hc)
  · exact x_le (lv' := [none]) (xw_le_n xw_le_e) (kf hc)
theorem s_Shelf_isColumn_9 {G : xw_G} {F L bc bs : Nat} {pr : Option Value → xw_A → Prop} {px : String → xw_A → Prop} {h : xw_A}   (k : xw G m_Shelf_isColumn F L bc bs pr px 14 [none] [.int 1] h) : xw G m_Shelf_isColumn F L bc bs pr px 9 [none] [] h := by
  refine x_iconst (v := 1) d_Shelf_isColumn_9 (by decide) ?_
  refine x_goto (tgt := 14) d_Shelf_isColumn_10 (by decide) ?_
  exact k
theorem s_Shelf_isColumn_13 {G : xw_G} {F L bc bs : Nat} {pr : Option Value → xw_A → Prop} {px : String → xw_A → Prop} {h : xw_A}   (k : xw G m_Shelf_isColumn F L bc bs pr px 14 [none] [.int 0] h) : xw G m_Shelf_isColumn F L bc bs pr px 13 [none] [] h := by
  refine x_iconst (v := 0) d_Shelf_isColumn_13 (by decide) ?_
  exact k
theorem s_Shelf_isColumn_14 {G : xw_G} {F L bc bs : Nat} {pr : Option Value → xw_A → Prop} {px : String → xw_A → Prop} {h : xw_A} {y0 : Int32} (w_14 : narrow .boolean (.int y0) = .int y0) (kr : pr (some (.int y0)) h) : xw G m_Shelf_isColumn F L bc bs pr px 14 [none] [.int y0] h := by
  exact x_zret d_Shelf_isColumn_14 rfl w_14 kr
theorem s_Shelf_isWord_0 {G : xw_G} {F L bc bs : Nat} {pr : Option Value → xw_A → Prop} {px : String → xw_A → Prop} {h : xw_A} {x0 : Int32}  (kt : x0 < 97 → xw G m_Shelf_isWord F L bc bs pr px 12 [some (.int x0)] [] h) (kf : ¬ x0 < 97 → xw G m_Shelf_isWord F L bc bs pr px 6 [some (.int x0)] [] h) : xw G m_Shelf_isWord F L bc bs pr px 0 [some (.int x0)] [] h := by
  refine x_iload_n d_Shelf_isWord_0 rfl rfl ?_
  refine x_bipush (v := 97) d_Shelf_isWord_1 (by decide) ?_
  refine x_icmp_lt (tgt := 12) d_Shelf_isWord_3 (by decide) (fun hc => ?_) (fun hc => ?_)
  · exact kt hc
  · exact kf hc
theorem s_Shelf_isWord_6 {G : xw_G} {F L bc bs : Nat} {pr : Option Value → xw_A → Prop} {px : String → xw_A → Prop} {h : xw_A} {x0 : Int32}  (kt : x0 ≤ 122 → xw G m_Shelf_isWord F L bc bs pr px 36 [none] [] h) (kf : ¬ x0 ≤ 122 → xw G m_Shelf_isWord F L bc bs pr px 12 [some (.int x0)] [] h) : xw G m_Shelf_isWord F L bc bs pr px 6 [some (.int x0)] [] h := by
  refine x_iload_n d_Shelf_isWord_6 rfl rfl ?_
  refine x_bipush (v := 122) d_Shelf_isWord_7 (by decide) ?_
  refine x_icmp_le (tgt := 36) d_Shelf_isWord_9 (by decide) (fun hc => ?_) (fun hc => ?_)
  · exact x_le (lv' := [none]) (xw_le_n xw_le_e) (kt hc)
  · exact kf hc
theorem s_Shelf_isWord_12 {G : xw_G} {F L bc bs : Nat} {pr : Option Value → xw_A → Prop} {px : String → xw_A → Prop} {h : xw_A} {x0 : Int32}  (kt : x0 < 65 → xw G m_Shelf_isWord F L bc bs pr px 24 [some (.int x0)] [] h) (kf : ¬ x0 < 65 → xw G m_Shelf_isWord F L bc bs pr px 18 [some (.int x0)] [] h) : xw G m_Shelf_isWord F L bc bs pr px 12 [some (.int x0)] [] h := by
  refine x_iload_n d_Shelf_isWord_12 rfl rfl ?_
  refine x_bipush (v := 65) d_Shelf_isWord_13 (by decide) ?_
  refine x_icmp_lt (tgt := 24) d_Shelf_isWord_15 (by decide) (fun hc => ?_) (fun hc => ?_)
  · exact kt hc
  · exact kf hc
theorem s_Shelf_isWord_18 {G : xw_G} {F L bc bs : Nat} {pr : Option Value → xw_A → Prop} {px : String → xw_A → Prop} {h : xw_A} {x0 : Int32}  (kt : x0 ≤ 90 → xw G m_Shelf_isWord F L bc bs pr px 36 [none] [] h) (kf : ¬ x0 ≤ 90 → xw G m_Shelf_isWord F L bc bs pr px 24 [some (.int x0)] [] h) : xw G m_Shelf_isWord F L bc bs pr px 18 [some (.int x0)] [] h := by
  refine x_iload_n d_Shelf_isWord_18 rfl rfl ?_
  refine x_bipush (v := 90) d_Shelf_isWord_19 (by decide) ?_
  refine x_icmp_le (tgt := 36) d_Shelf_isWord_21 (by decide) (fun hc => ?_) (fun hc => ?_)
  · exact x_le (lv' := [none]) (xw_le_n xw_le_e) (kt hc)
  · exact kf hc
theorem s_Shelf_isWord_24 {G : xw_G} {F L bc bs : Nat} {pr : Option Value → xw_A → Prop} {px : String → xw_A → Prop} {h : xw_A} {x0 : Int32}  (kt : x0 < 48 → xw G m_Shelf_isWord F L bc bs pr px 40 [none] [] h) (kf : ¬ x0 < 48 → xw G m_Shelf_isWord F L bc bs pr px 30 [some (.int x0)] [] h) : xw G m_Shelf_isWord F L bc bs pr px 24 [some (.int x0)] [] h := by
  refine x_iload_n d_Shelf_isWord_24 rfl rfl ?_
  refine x_bipush (v := 48) d_Shelf_isWord_25 (by decide) ?_
  refine x_icmp_lt (tgt := 40) d_Shelf_isWord_27 (by decide) (fun hc => ?_) (fun hc => ?_)
  · exact x_le (lv' := [none]) (xw_le_n xw_le_e) (kt hc)
  · exact kf hc
theorem s_Shelf_isWord_30 {G : xw_G} {F L bc bs : Nat} {pr : Option Value → xw_A → Prop} {px : String → xw_A → Prop} {h : xw_A} {x0 : Int32}  (kt : 57 < x0 → xw G m_Shelf_isWord F L bc bs pr px 40 [none] [] h) (kf : ¬ 57 < x0 → xw G m_Shelf_isWord F L bc bs pr px 36 [none] [] h) : xw G m_Shelf_isWord F L bc bs pr px 30 [some (.int x0)] [] h := by
  refine x_iload_n d_Shelf_isWord_30 rfl rfl ?_
  refine x_bipush (v := 57) d_Shelf_isWord_31 (by decide) ?_
  refine x_icmp_gt (tgt := 40) d_Shelf_isWord_33 (by decide) (fun hc => ?_) (fun hc => ?_)
  · exact x_le (lv' := [none]) (xw_le_n xw_le_e) (kt hc)
  · exact x_le (lv' := [none]) (xw_le_n xw_le_e) (kf hc)
theorem s_Shelf_isWord_36 {G : xw_G} {F L bc bs : Nat} {pr : Option Value → xw_A → Prop} {px : String → xw_A → Prop} {h : xw_A}   (k : xw G m_Shelf_isWord F L bc bs pr px 41 [none] [.int 1] h) : xw G m_Shelf_isWord F L bc bs pr px 36 [none] [] h := by
  refine x_iconst (v := 1) d_Shelf_isWord_36 (by decide) ?_
  refine x_goto (tgt := 41) d_Shelf_isWord_37 (by decide) ?_
  exact k
theorem s_Shelf_isWord_40 {G : xw_G} {F L bc bs : Nat} {pr : Option Value → xw_A → Prop} {px : String → xw_A → Prop} {h : xw_A}   (k : xw G m_Shelf_isWord F L bc bs pr px 41 [none] [.int 0] h) : xw G m_Shelf_isWord F L bc bs pr px 40 [none] [] h := by
  refine x_iconst (v := 0) d_Shelf_isWord_40 (by decide) ?_
  exact k
theorem s_Shelf_isWord_41 {G : xw_G} {F L bc bs : Nat} {pr : Option Value → xw_A → Prop} {px : String → xw_A → Prop} {h : xw_A} {y0 : Int32} (w_41 : narrow .boolean (.int y0) = .int y0) (kr : pr (some (.int y0)) h) : xw G m_Shelf_isWord F L bc bs pr px 41 [none] [.int y0] h := by
  exact x_zret d_Shelf_isWord_41 rfl w_41 kr
theorem s_Shelf_insert_0 {G : xw_G} {F L bc bs : Nat} {pr : Option Value → xw_A → Prop} {px : String → xw_A → Prop} {h : xw_A} {a0 : Nat} {draft_a0 : Option Nat} {texts_a0 : Option Nat} {weights_a0 : Option Nat} {store_a0 : Option Nat} {saved_a0 : Option Nat} {question_a0 : Option Nat} {standing_a0 : Option Nat} {answers_a0 : Option Nat} {draftLength_a0 : Int32} {most_a0 : Int32} {limit_a0 : Int32} {open_a0 : Int32} {wrongPlace_a0 : Int32} {goodPhrases_a0 : Int32} (e_a0 : h a0 = some (.inr (0, [va_rf draft_a0, va_rf texts_a0, va_rf weights_a0, va_rf store_a0, va_rf saved_a0, va_rf question_a0, va_rf standing_a0, va_rf answers_a0, .int draftLength_a0, .int most_a0, .int limit_a0, .int open_a0, .int wrongPlace_a0, .int goodPhrases_a0]))) (k : xw G m_Shelf_insert F L bc bs pr px 4 [some (.ref a0), none] [va_rf store_a0] h) : xw G m_Shelf_insert F L bc bs pr px 0 [some (.ref a0), none] [] h := by
  refine x_aload_n d_Shelf_insert_0 rfl rfl ?_
  refine x_get d_Shelf_insert_1 f_Shelf_26 e_a0 rfl ?_
  exact k
theorem s_Shelf_insert_7 {G : xw_G} {F L bc bs : Nat} {pr : Option Value → xw_A → Prop} {px : String → xw_A → Prop} {h : xw_A} {a0 : Nat} {y0 : Int32}  (kt : ¬ y0 = 0 → xw G m_Shelf_insert F L bc bs pr px 22 [some (.ref a0), some (.int y0)] [] h) (kf : y0 = 0 → xw G m_Shelf_insert F L bc bs pr px 12 [none, none] [] h) : xw G m_Shelf_insert F L bc bs pr px 7 [some (.ref a0), none] [.int y0] h := by
  refine x_istore_n d_Shelf_insert_7 rfl (by decide) rfl ?_
  show xw G m_Shelf_insert F L bc bs pr px 8 [some (.ref a0), some (.int y0)] [] h
  refine x_iload_n d_Shelf_insert_8 rfl rfl ?_
  refine x_if_ne (tgt := 22) d_Shelf_insert_9 (by decide) (fun hc => ?_) (fun hc => ?_)
  · exact kt hc
  · exact x_le (lv' := [none, none]) (xw_le_n (xw_le_n xw_le_e)) (kf hc)
theorem s_Shelf_insert_22 {G : xw_G} {F L bc bs : Nat} {pr : Option Value → xw_A → Prop} {px : String → xw_A → Prop} {h : xw_A} {a0 : Nat} {x1 : Int32}  (k : xw G m_Shelf_insert F L bc bs pr px 24 [some (.ref a0), some (.int x1)] [.int x1, .ref a0] h) : xw G m_Shelf_insert F L bc bs pr px 22 [some (.ref a0), some (.int x1)] [] h := by
  refine x_aload_n d_Shelf_insert_22 rfl rfl ?_
  refine x_iload_n d_Shelf_insert_23 rfl rfl ?_
  exact k
theorem s_Shelf_insert_27 {G : xw_G} {F L bc bs : Nat} {pr : Option Value → xw_A → Prop} {px : String → xw_A → Prop} {h : xw_A} {x1 : Int32} {y0 : Int32}  (kr : pr (some (.int x1)) h) : xw G m_Shelf_insert F L bc bs pr px 27 [none, some (.int x1)] [.int y0] h := by
  refine x_pop d_Shelf_insert_27 rfl ?_
  refine x_iload_n d_Shelf_insert_28 rfl rfl ?_
  exact x_iret d_Shelf_insert_29 rfl kr
theorem s_Shelf_giveTexts_0 {G : xw_G} {F L bc bs : Nat} {pr : Option Value → xw_A → Prop} {px : String → xw_A → Prop} {h : xw_A} {a0 : Nat} {x1 : Int32} {draft_a0 : Option Nat} {texts_a0 : Nat} {weights_a0 : Option Nat} {store_a0 : Option Nat} {saved_a0 : Option Nat} {question_a0 : Option Nat} {standing_a0 : Option Nat} {answers_a0 : Option Nat} {draftLength_a0 : Int32} {most_a0 : Int32} {limit_a0 : Int32} {open_a0 : Int32} {wrongPlace_a0 : Int32} {goodPhrases_a0 : Int32} {n_texts_a0 : Nat} {f_texts_a0 : Nat → Option Nat} (e_a0 : h a0 = some (.inr (0, [va_rf draft_a0, .ref texts_a0, va_rf weights_a0, va_rf store_a0, va_rf saved_a0, va_rf question_a0, va_rf standing_a0, va_rf answers_a0, .int draftLength_a0, .int most_a0, .int limit_a0, .int open_a0, .int wrongPlace_a0, .int goodPhrases_a0]))) (e_texts_a0 : h texts_a0 = some (.inl (9 + 6, n_texts_a0, .inr (.inr (.inr (.inr f_texts_a0)))))) (i_10 : vp_in 0 n_texts_a0) (i_16 : vp_in 1 n_texts_a0) (k : xw G m_Shelf_giveTexts F L bc bs pr px 17 [some (.ref a0), some (.int x1), none] [va_rf (f_texts_a0 (1 : Int32).toNatClampNeg), va_rf (f_texts_a0 (0 : Int32).toNatClampNeg), .int x1, va_rf store_a0] h) : xw G m_Shelf_giveTexts F L bc bs pr px 0 [some (.ref a0), some (.int x1), none] [] h := by
  refine x_aload_n d_Shelf_giveTexts_0 rfl rfl ?_
  refine x_get d_Shelf_giveTexts_1 f_Shelf_26 e_a0 rfl ?_
  refine x_iload_n d_Shelf_giveTexts_4 rfl rfl ?_
  refine x_aload_n d_Shelf_giveTexts_5 rfl rfl ?_
  refine x_get d_Shelf_giveTexts_6 f_Shelf_15 e_a0 rfl ?_
  refine x_iconst (v := 0) d_Shelf_giveTexts_9 (by decide) ?_
  refine x_aald d_Shelf_giveTexts_10 e_texts_a0 i_10 rfl ?_
  refine x_aload_n d_Shelf_giveTexts_11 rfl rfl ?_
  refine x_get d_Shelf_giveTexts_12 f_Shelf_15 e_a0 rfl ?_
  refine x_iconst (v := 1) d_Shelf_giveTexts_15 (by decide) ?_
  refine x_aald d_Shelf_giveTexts_16 e_texts_a0 i_16 rfl ?_
  exact k
theorem s_Shelf_giveTexts_20 {G : xw_G} {F L bc bs : Nat} {pr : Option Value → xw_A → Prop} {px : String → xw_A → Prop} {h : xw_A} {a0 : Nat} {y0 : Int32} {draft_a0 : Option Nat} {texts_a0 : Option Nat} {weights_a0 : Option Nat} {store_a0 : Nat} {saved_a0 : Option Nat} {question_a0 : Option Nat} {standing_a0 : Option Nat} {answers_a0 : Option Nat} {draftLength_a0 : Int32} {most_a0 : Int32} {limit_a0 : Int32} {open_a0 : Int32} {wrongPlace_a0 : Int32} {goodPhrases_a0 : Int32} {rows_store_a0 : Option Nat} {pending_store_a0 : Option Nat} {segments_store_a0 : Option Nat} {live_store_a0 : Option Nat} {pendingCount_store_a0 : Int32} {pendingEntries_store_a0 : Int32} {segmentCount_store_a0 : Int32} {versionsMade_store_a0 : Int32} {segmentsMade_store_a0 : Int32} {liveCount_store_a0 : Int32} (e_a0 : h a0 = some (.inr (0, [va_rf draft_a0, va_rf texts_a0, va_rf weights_a0, .ref store_a0, va_rf saved_a0, va_rf question_a0, va_rf standing_a0, va_rf answers_a0, .int draftLength_a0, .int most_a0, .int limit_a0, .int open_a0, .int wrongPlace_a0, .int goodPhrases_a0]))) (e_store_a0 : h store_a0 = some (.inr (8, [va_rf rows_store_a0, va_rf pending_store_a0, va_rf segments_store_a0, va_rf live_store_a0, .int pendingCount_store_a0, .int pendingEntries_store_a0, .int segmentCount_store_a0, .int versionsMade_store_a0, .int segmentsMade_store_a0, .int liveCount_store_a0]))) (kt : pendingEntries_store_a0 ≤ limit_a0 → xw G m_Shelf_giveTexts F L bc bs pr px 46 [none, none, some (.int y0)] [] h) (kf : ¬ pendingEntries_store_a0 ≤ limit_a0 → xw G m_Shelf_giveTexts F L bc bs pr px 35 [some (.ref a0), none, some (.int y0)] [] h) : xw G m_Shelf_giveTexts F L bc bs pr px 20 [some (.ref a0), none, none] [.int y0] h := by
  refine x_istore_n d_Shelf_giveTexts_20 rfl (by decide) trivial ?_
  show xw G m_Shelf_giveTexts F L bc bs pr px 21 [some (.ref a0), none, some (.int y0)] [] h
  refine x_aload_n d_Shelf_giveTexts_21 rfl rfl ?_
  refine x_get d_Shelf_giveTexts_22 f_Shelf_26 e_a0 rfl ?_
  refine x_get d_Shelf_giveTexts_25 f_Shelf_241 e_store_a0 rfl ?_
  refine x_aload_n d_Shelf_giveTexts_28 rfl rfl ?_
  refine x_get d_Shelf_giveTexts_29 f_Shelf_61 e_a0 rfl ?_
  refine x_icmp_le (tgt := 46) d_Shelf_giveTexts_32 (by decide) (fun hc => ?_) (fun hc => ?_)
  · exact x_le (lv' := [none, none, some (.int y0)]) (xw_le_n (xw_le_n (xw_le_s xw_le_e))) (kt hc)
  · exact kf hc
theorem s_Shelf_giveTexts_35 {G : xw_G} {F L bc bs : Nat} {pr : Option Value → xw_A → Prop} {px : String → xw_A → Prop} {h : xw_A} {a0 : Nat} {x2 : Int32} {draft_a0 : Option Nat} {texts_a0 : Option Nat} {weights_a0 : Option Nat} {store_a0 : Option Nat} {saved_a0 : Option Nat} {question_a0 : Option Nat} {standing_a0 : Option Nat} {answers_a0 : Option Nat} {draftLength_a0 : Int32} {most_a0 : Int32} {limit_a0 : Int32} {open_a0 : Int32} {wrongPlace_a0 : Int32} {goodPhrases_a0 : Int32} (e_a0 : h a0 = some (.inr (0, [va_rf draft_a0, va_rf texts_a0, va_rf weights_a0, va_rf store_a0, va_rf saved_a0, va_rf question_a0, va_rf standing_a0, va_rf answers_a0, .int draftLength_a0, .int most_a0, .int limit_a0, .int open_a0, .int wrongPlace_a0, .int goodPhrases_a0]))) (k : xw G m_Shelf_giveTexts F L bc bs pr px 43 [some (.ref a0), none, some (.int x2)] [.int most_a0, va_rf store_a0] h) : xw G m_Shelf_giveTexts F L bc bs pr px 35 [some (.ref a0), none, some (.int x2)] [] h := by
  refine x_aload_n d_Shelf_giveTexts_35 rfl rfl ?_
  refine x_get d_Shelf_giveTexts_36 f_Shelf_26 e_a0 rfl ?_
  refine x_aload_n d_Shelf_giveTexts_39 rfl rfl ?_
  refine x_get d_Shelf_giveTexts_40 f_Shelf_57 e_a0 rfl ?_
  exact k
theorem s_Shelf_giveTexts_46 {G : xw_G} {F L bc bs : Nat} {pr : Option Value → xw_A → Prop} {px : String → xw_A → Prop} {h : xw_A} {x2 : Int32}  (kr : pr (some (.int x2)) h) : xw G m_Shelf_giveTexts F L bc bs pr px 46 [none, none, some (.int x2)] [] h := by
  refine x_iload_n d_Shelf_giveTexts_46 rfl rfl ?_
  exact x_iret d_Shelf_giveTexts_47 rfl kr
theorem s_Shelf_replace_0 {G : xw_G} {F L bc bs : Nat} {pr : Option Value → xw_A → Prop} {px : String → xw_A → Prop} {h : xw_A} {a0 : Nat} {x1 : Int32} {draft_a0 : Option Nat} {texts_a0 : Option Nat} {weights_a0 : Option Nat} {store_a0 : Option Nat} {saved_a0 : Option Nat} {question_a0 : Option Nat} {standing_a0 : Option Nat} {answers_a0 : Option Nat} {draftLength_a0 : Int32} {most_a0 : Int32} {limit_a0 : Int32} {open_a0 : Int32} {wrongPlace_a0 : Int32} {goodPhrases_a0 : Int32} (e_a0 : h a0 = some (.inr (0, [va_rf draft_a0, va_rf texts_a0, va_rf weights_a0, va_rf store_a0, va_rf saved_a0, va_rf question_a0, va_rf standing_a0, va_rf answers_a0, .int draftLength_a0, .int most_a0, .int limit_a0, .int open_a0, .int wrongPlace_a0, .int goodPhrases_a0]))) (k : xw G m_Shelf_replace F L bc bs pr px 5 [some (.ref a0), some (.int x1)] [.int x1, va_rf store_a0] h) : xw G m_Shelf_replace F L bc bs pr px 0 [some (.ref a0), some (.int x1)] [] h := by
  refine x_aload_n d_Shelf_replace_0 rfl rfl ?_
  refine x_get d_Shelf_replace_1 f_Shelf_26 e_a0 rfl ?_
  refine x_iload_n d_Shelf_replace_4 rfl rfl ?_
  exact k
theorem s_Shelf_replace_8 {G : xw_G} {F L bc bs : Nat} {pr : Option Value → xw_A → Prop} {px : String → xw_A → Prop} {h : xw_A} {a0 : Nat} {x1 : Int32} {s0 : Option Nat}  (kn : s0 = none → xw G m_Shelf_replace F L bc bs pr px 11 [none, none] [] h) (ks : ∀ a9 : Nat, s0 = some a9 → xw G m_Shelf_replace F L bc bs pr px 21 [some (.ref a0), some (.int x1)] [] h) : xw G m_Shelf_replace F L bc bs pr px 8 [some (.ref a0), some (.int x1)] [va_rf s0] h := by
  refine x_ifnonnullq (tgt := 21) d_Shelf_replace_8 (by decide) (fun hc => ?_) (fun a9 hc => ?_)
  · exact x_le (lv' := [none, none]) (xw_le_n (xw_le_n xw_le_e)) (kn hc)
  · exact ks a9 hc
theorem s_Shelf_replace_21 {G : xw_G} {F L bc bs : Nat} {pr : Option Value → xw_A → Prop} {px : String → xw_A → Prop} {h : xw_A} {a0 : Nat} {x1 : Int32}  (k : xw G m_Shelf_replace F L bc bs pr px 23 [some (.ref a0), some (.int x1)] [.int x1, .ref a0] h) : xw G m_Shelf_replace F L bc bs pr px 21 [some (.ref a0), some (.int x1)] [] h := by
  refine x_aload_n d_Shelf_replace_21 rfl rfl ?_
  refine x_iload_n d_Shelf_replace_22 rfl rfl ?_
  exact k
theorem s_Shelf_replace_26 {G : xw_G} {F L bc bs : Nat} {pr : Option Value → xw_A → Prop} {px : String → xw_A → Prop} {h : xw_A} {y0 : Int32}  (kr : pr (some (.int y0)) h) : xw G m_Shelf_replace F L bc bs pr px 26 [none, none] [.int y0] h := by
  exact x_iret d_Shelf_replace_26 rfl kr
theorem s_Shelf_delete_0 {G : xw_G} {F L bc bs : Nat} {pr : Option Value → xw_A → Prop} {px : String → xw_A → Prop} {h : xw_A} {a0 : Nat} {x1 : Int32} {draft_a0 : Option Nat} {texts_a0 : Option Nat} {weights_a0 : Option Nat} {store_a0 : Option Nat} {saved_a0 : Option Nat} {question_a0 : Option Nat} {standing_a0 : Option Nat} {answers_a0 : Option Nat} {draftLength_a0 : Int32} {most_a0 : Int32} {limit_a0 : Int32} {open_a0 : Int32} {wrongPlace_a0 : Int32} {goodPhrases_a0 : Int32} (e_a0 : h a0 = some (.inr (0, [va_rf draft_a0, va_rf texts_a0, va_rf weights_a0, va_rf store_a0, va_rf saved_a0, va_rf question_a0, va_rf standing_a0, va_rf answers_a0, .int draftLength_a0, .int most_a0, .int limit_a0, .int open_a0, .int wrongPlace_a0, .int goodPhrases_a0]))) (k : xw G m_Shelf_delete F L bc bs pr px 5 [some (.ref a0), some (.int x1), none] [.int x1, va_rf store_a0] h) : xw G m_Shelf_delete F L bc bs pr px 0 [some (.ref a0), some (.int x1), none] [] h := by
  refine x_aload_n d_Shelf_delete_0 rfl rfl ?_
  refine x_get d_Shelf_delete_1 f_Shelf_26 e_a0 rfl ?_
  refine x_iload_n d_Shelf_delete_4 rfl rfl ?_
  exact k
theorem s_Shelf_delete_8 {G : xw_G} {F L bc bs : Nat} {pr : Option Value → xw_A → Prop} {px : String → xw_A → Prop} {h : xw_A} {a0 : Nat} {x1 : Int32} {s0 : Option Nat}  (kn : s0 = none → xw G m_Shelf_delete F L bc bs pr px 13 [none, none, none] [] h) (ks : ∀ a9 : Nat, s0 = some a9 → xw G m_Shelf_delete F L bc bs pr px 23 [some (.ref a0), some (.int x1), some (va_rf s0)] [] h) : xw G m_Shelf_delete F L bc bs pr px 8 [some (.ref a0), some (.int x1), none] [va_rf s0] h := by
  refine x_astoreq_n d_Shelf_delete_8 rfl (by decide) rfl ?_
  show xw G m_Shelf_delete F L bc bs pr px 9 [some (.ref a0), some (.int x1), some (va_rf s0)] [] h
  refine x_aloadq_n d_Shelf_delete_9 rfl rfl ?_
  refine x_ifnonnullq (tgt := 23) d_Shelf_delete_10 (by decide) (fun hc => ?_) (fun a9 hc => ?_)
  · exact x_le (lv' := [none, none, none]) (xw_le_n (xw_le_n (xw_le_n xw_le_e))) (kn hc)
  · exact ks a9 hc
theorem s_Shelf_delete_23 {G : xw_G} {F L bc bs : Nat} {pr : Option Value → xw_A → Prop} {px : String → xw_A → Prop} {h : xw_A} {a0 : Nat} {x1 : Int32} {r2 : Option Nat} {draft_a0 : Option Nat} {texts_a0 : Option Nat} {weights_a0 : Option Nat} {store_a0 : Option Nat} {saved_a0 : Option Nat} {question_a0 : Option Nat} {standing_a0 : Option Nat} {answers_a0 : Option Nat} {draftLength_a0 : Int32} {most_a0 : Int32} {limit_a0 : Int32} {open_a0 : Int32} {wrongPlace_a0 : Int32} {goodPhrases_a0 : Int32} (e_a0 : h a0 = some (.inr (0, [va_rf draft_a0, va_rf texts_a0, va_rf weights_a0, va_rf store_a0, va_rf saved_a0, va_rf question_a0, va_rf standing_a0, va_rf answers_a0, .int draftLength_a0, .int most_a0, .int limit_a0, .int open_a0, .int wrongPlace_a0, .int goodPhrases_a0]))) (k : xw G m_Shelf_delete F L bc bs pr px 28 [some (.ref a0), some (.int x1), some (va_rf r2)] [.int x1, va_rf store_a0] h) : xw G m_Shelf_delete F L bc bs pr px 23 [some (.ref a0), some (.int x1), some (va_rf r2)] [] h := by
  refine x_aload_n d_Shelf_delete_23 rfl rfl ?_
  refine x_get d_Shelf_delete_24 f_Shelf_26 e_a0 rfl ?_
  refine x_iload_n d_Shelf_delete_27 rfl rfl ?_
  exact k
theorem s_Shelf_delete_31 {G : xw_G} {F L bc bs : Nat} {pr : Option Value → xw_A → Prop} {px : String → xw_A → Prop} {h : xw_A} {r2 : Option Nat}  (k : xw G m_Shelf_delete F L bc bs pr px 32 [none, none, some (va_rf r2)] [va_rf r2] h) : xw G m_Shelf_delete F L bc bs pr px 31 [none, none, some (va_rf r2)] [] h := by
  refine x_aloadq_n d_Shelf_delete_31 rfl rfl ?_
  exact k
theorem s_Shelf_delete_35 {G : xw_G} {F L bc bs : Nat} {pr : Option Value → xw_A → Prop} {px : String → xw_A → Prop} {h : xw_A} {y0 : Int32}  (kr : pr (some (.int y0)) h) : xw G m_Shelf_delete F L bc bs pr px 35 [none, none, none] [.int y0] h := by
  exact x_iret d_Shelf_delete_35 rfl kr
theorem s_Shelf_begin_0 {G : xw_G} {F L bc bs : Nat} {pr : Option Value → xw_A → Prop} {px : String → xw_A → Prop} {h : xw_A} {a0 : Nat} {draft_a0 : Option Nat} {texts_a0 : Option Nat} {weights_a0 : Option Nat} {store_a0 : Option Nat} {saved_a0 : Option Nat} {question_a0 : Option Nat} {standing_a0 : Option Nat} {answers_a0 : Option Nat} {draftLength_a0 : Int32} {most_a0 : Int32} {limit_a0 : Int32} {open_a0 : Int32} {wrongPlace_a0 : Int32} {goodPhrases_a0 : Int32} (e_a0 : h a0 = some (.inr (0, [va_rf draft_a0, va_rf texts_a0, va_rf weights_a0, va_rf store_a0, va_rf saved_a0, va_rf question_a0, va_rf standing_a0, va_rf answers_a0, .int draftLength_a0, .int most_a0, .int limit_a0, .int open_a0, .int wrongPlace_a0, .int goodPhrases_a0]))) (kt : open_a0 = 0 → xw G m_Shelf_begin F L bc bs pr px 17 [some (.ref a0)] [] h) (kf : ¬ open_a0 = 0 → xw G m_Shelf_begin F L bc bs pr px 7 [none] [] h) : xw G m_Shelf_begin F L bc bs pr px 0 [some (.ref a0)] [] h := by
  refine x_aload_n d_Shelf_begin_0 rfl rfl ?_
  refine x_get d_Shelf_begin_1 f_Shelf_132 e_a0 rfl ?_
  refine x_if_eq (tgt := 17) d_Shelf_begin_4 (by decide) (fun hc => ?_) (fun hc => ?_)
  · exact kt hc
  · exact x_le (lv' := [none]) (xw_le_n xw_le_e) (kf hc)
theorem s_Shelf_begin_17 {G : xw_G} {F L bc bs : Nat} {pr : Option Value → xw_A → Prop} {px : String → xw_A → Prop} {h : xw_A} {a0 : Nat} {draft_a0 : Option Nat} {texts_a0 : Option Nat} {weights_a0 : Option Nat} {store_a0 : Option Nat} {saved_a0 : Option Nat} {question_a0 : Option Nat} {standing_a0 : Option Nat} {answers_a0 : Option Nat} {draftLength_a0 : Int32} {most_a0 : Int32} {limit_a0 : Int32} {open_a0 : Int32} {wrongPlace_a0 : Int32} {goodPhrases_a0 : Int32} (e_a0 : h a0 = some (.inr (0, [va_rf draft_a0, va_rf texts_a0, va_rf weights_a0, va_rf store_a0, va_rf saved_a0, va_rf question_a0, va_rf standing_a0, va_rf answers_a0, .int draftLength_a0, .int most_a0, .int limit_a0, .int open_a0, .int wrongPlace_a0, .int goodPhrases_a0]))) (k : xw G m_Shelf_begin F L bc bs pr px 25 [some (.ref a0)] [va_rf store_a0, va_rf saved_a0] h) : xw G m_Shelf_begin F L bc bs pr px 17 [some (.ref a0)] [] h := by
  refine x_aload_n d_Shelf_begin_17 rfl rfl ?_
  refine x_get d_Shelf_begin_18 f_Shelf_30 e_a0 rfl ?_
  refine x_aload_n d_Shelf_begin_21 rfl rfl ?_
  refine x_get d_Shelf_begin_22 f_Shelf_26 e_a0 rfl ?_
  exact k
theorem s_Shelf_begin_28 {G : xw_G} {F L bc bs : Nat} {pr : Option Value → xw_A → Prop} {px : String → xw_A → Prop} {h : xw_A} {a0 : Nat} {draft_a0 : Option Nat} {texts_a0 : Option Nat} {weights_a0 : Option Nat} {store_a0 : Option Nat} {saved_a0 : Option Nat} {question_a0 : Option Nat} {standing_a0 : Option Nat} {answers_a0 : Option Nat} {draftLength_a0 : Int32} {most_a0 : Int32} {limit_a0 : Int32} {open_a0 : Int32} {wrongPlace_a0 : Int32} {goodPhrases_a0 : Int32} (e_a0 : h a0 = some (.inr (0, [va_rf draft_a0, va_rf texts_a0, va_rf weights_a0, va_rf store_a0, va_rf saved_a0, va_rf question_a0, va_rf standing_a0, va_rf answers_a0, .int draftLength_a0, .int most_a0, .int limit_a0, .int open_a0, .int wrongPlace_a0, .int goodPhrases_a0]))) (kr : pr none (xw_up h a0 (.inr (0, [va_rf draft_a0, va_rf texts_a0, va_rf weights_a0, va_rf store_a0, va_rf saved_a0, va_rf question_a0, va_rf standing_a0, va_rf answers_a0, .int draftLength_a0, .int most_a0, .int limit_a0, .int 1, .int wrongPlace_a0, .int goodPhrases_a0])))) : xw G m_Shelf_begin F L bc bs pr px 28 [some (.ref a0)] [] h := by
  refine x_aload_n d_Shelf_begin_28 rfl rfl ?_
  refine x_iconst (v := 1) d_Shelf_begin_29 (by decide) ?_
  refine x_put (ty := .boolean) d_Shelf_begin_30 f_Shelf_132 fw_Shelf_11.1 fw_Shelf_11.2 rfl rfl (Nat.le_of_ble_eq_true rfl) e_a0 ?_
  show xw G m_Shelf_begin F L bc bs pr px 33 [some (.ref a0)] [] (xw_up h a0 (.inr (0, [va_rf draft_a0, va_rf texts_a0, va_rf weights_a0, va_rf store_a0, va_rf saved_a0, va_rf question_a0, va_rf standing_a0, va_rf answers_a0, .int draftLength_a0, .int most_a0, .int limit_a0, .int 1, .int wrongPlace_a0, .int goodPhrases_a0])))
  exact x_vret d_Shelf_begin_33 rfl kr
theorem s_Shelf_commit_0 {G : xw_G} {F L bc bs : Nat} {pr : Option Value → xw_A → Prop} {px : String → xw_A → Prop} {h : xw_A} {a0 : Nat} {draft_a0 : Option Nat} {texts_a0 : Option Nat} {weights_a0 : Option Nat} {store_a0 : Option Nat} {saved_a0 : Option Nat} {question_a0 : Option Nat} {standing_a0 : Option Nat} {answers_a0 : Option Nat} {draftLength_a0 : Int32} {most_a0 : Int32} {limit_a0 : Int32} {open_a0 : Int32} {wrongPlace_a0 : Int32} {goodPhrases_a0 : Int32} (e_a0 : h a0 = some (.inr (0, [va_rf draft_a0, va_rf texts_a0, va_rf weights_a0, va_rf store_a0, va_rf saved_a0, va_rf question_a0, va_rf standing_a0, va_rf answers_a0, .int draftLength_a0, .int most_a0, .int limit_a0, .int open_a0, .int wrongPlace_a0, .int goodPhrases_a0]))) (kt : ¬ open_a0 = 0 → xw G m_Shelf_commit F L bc bs pr px 17 [some (.ref a0)] [] h) (kf : open_a0 = 0 → xw G m_Shelf_commit F L bc bs pr px 7 [none] [] h) : xw G m_Shelf_commit F L bc bs pr px 0 [some (.ref a0)] [] h := by
  refine x_aload_n d_Shelf_commit_0 rfl rfl ?_
  refine x_get d_Shelf_commit_1 f_Shelf_132 e_a0 rfl ?_
  refine x_if_ne (tgt := 17) d_Shelf_commit_4 (by decide) (fun hc => ?_) (fun hc => ?_)
  · exact kt hc
  · exact x_le (lv' := [none]) (xw_le_n xw_le_e) (kf hc)
theorem s_Shelf_commit_17 {G : xw_G} {F L bc bs : Nat} {pr : Option Value → xw_A → Prop} {px : String → xw_A → Prop} {h : xw_A} {a0 : Nat} {draft_a0 : Option Nat} {texts_a0 : Option Nat} {weights_a0 : Option Nat} {store_a0 : Option Nat} {saved_a0 : Option Nat} {question_a0 : Option Nat} {standing_a0 : Option Nat} {answers_a0 : Option Nat} {draftLength_a0 : Int32} {most_a0 : Int32} {limit_a0 : Int32} {open_a0 : Int32} {wrongPlace_a0 : Int32} {goodPhrases_a0 : Int32} (e_a0 : h a0 = some (.inr (0, [va_rf draft_a0, va_rf texts_a0, va_rf weights_a0, va_rf store_a0, va_rf saved_a0, va_rf question_a0, va_rf standing_a0, va_rf answers_a0, .int draftLength_a0, .int most_a0, .int limit_a0, .int open_a0, .int wrongPlace_a0, .int goodPhrases_a0]))) (k : xw G m_Shelf_commit F L bc bs pr px 30 [some (.ref a0)] [.int most_a0, va_rf store_a0] (xw_up h a0 (.inr (0, [va_rf draft_a0, va_rf texts_a0, va_rf weights_a0, va_rf store_a0, va_rf saved_a0, va_rf question_a0, va_rf standing_a0, va_rf answers_a0, .int draftLength_a0, .int most_a0, .int limit_a0, .int 0, .int wrongPlace_a0, .int goodPhrases_a0])))) : xw G m_Shelf_commit F L bc bs pr px 17 [some (.ref a0)] [] h := by
  refine x_aload_n d_Shelf_commit_17 rfl rfl ?_
  refine x_iconst (v := 0) d_Shelf_commit_18 (by decide) ?_
  refine x_put (ty := .boolean) d_Shelf_commit_19 f_Shelf_132 fw_Shelf_11.1 fw_Shelf_11.2 rfl rfl (Nat.le_of_ble_eq_true rfl) e_a0 ?_
  show xw G m_Shelf_commit F L bc bs pr px 22 [some (.ref a0)] [] (xw_up h a0 (.inr (0, [va_rf draft_a0, va_rf texts_a0, va_rf weights_a0, va_rf store_a0, va_rf saved_a0, va_rf question_a0, va_rf standing_a0, va_rf answers_a0, .int draftLength_a0, .int most_a0, .int limit_a0, .int 0, .int wrongPlace_a0, .int goodPhrases_a0])))
  refine x_aload_n d_Shelf_commit_22 rfl rfl ?_
  refine x_get d_Shelf_commit_23 f_Shelf_26 (xw_up_s _ _ _) rfl ?_
  refine x_aload_n d_Shelf_commit_26 rfl rfl ?_
  refine x_get d_Shelf_commit_27 f_Shelf_57 (xw_up_s _ _ _) rfl ?_
  exact k
theorem s_Shelf_commit_33 {G : xw_G} {F L bc bs : Nat} {pr : Option Value → xw_A → Prop} {px : String → xw_A → Prop} {h : xw_A} {a0 : Nat} {draft_a0 : Option Nat} {texts_a0 : Option Nat} {weights_a0 : Option Nat} {store_a0 : Nat} {saved_a0 : Option Nat} {question_a0 : Option Nat} {standing_a0 : Option Nat} {answers_a0 : Option Nat} {draftLength_a0 : Int32} {most_a0 : Int32} {limit_a0 : Int32} {open_a0 : Int32} {wrongPlace_a0 : Int32} {goodPhrases_a0 : Int32} {rows_store_a0 : Option Nat} {pending_store_a0 : Option Nat} {segments_store_a0 : Option Nat} {live_store_a0 : Option Nat} {pendingCount_store_a0 : Int32} {pendingEntries_store_a0 : Int32} {segmentCount_store_a0 : Int32} {versionsMade_store_a0 : Int32} {segmentsMade_store_a0 : Int32} {liveCount_store_a0 : Int32} (e_a0 : h a0 = some (.inr (0, [va_rf draft_a0, va_rf texts_a0, va_rf weights_a0, .ref store_a0, va_rf saved_a0, va_rf question_a0, va_rf standing_a0, va_rf answers_a0, .int draftLength_a0, .int most_a0, .int limit_a0, .int open_a0, .int wrongPlace_a0, .int goodPhrases_a0]))) (e_store_a0 : h store_a0 = some (.inr (8, [va_rf rows_store_a0, va_rf pending_store_a0, va_rf segments_store_a0, va_rf live_store_a0, .int pendingCount_store_a0, .int pendingEntries_store_a0, .int segmentCount_store_a0, .int versionsMade_store_a0, .int segmentsMade_store_a0, .int liveCount_store_a0]))) (kr : pr (some (.int segmentCount_store_a0)) h) : xw G m_Shelf_commit F L bc bs pr px 33 [some (.ref a0)] [] h := by
  refine x_aload_n d_Shelf_commit_33 rfl rfl ?_
  refine x_get d_Shelf_commit_34 f_Shelf_26 e_a0 rfl ?_
  refine x_get d_Shelf_commit_37 f_Shelf_150 e_store_a0 rfl ?_
  exact x_iret d_Shelf_commit_40 rfl kr
theorem s_Shelf_rollback_0 {G : xw_G} {F L bc bs : Nat} {pr : Option Value → xw_A → Prop} {px : String → xw_A → Prop} {h : xw_A} {a0 : Nat} {draft_a0 : Option Nat} {texts_a0 : Option Nat} {weights_a0 : Option Nat} {store_a0 : Option Nat} {saved_a0 : Option Nat} {question_a0 : Option Nat} {standing_a0 : Option Nat} {answers_a0 : Option Nat} {draftLength_a0 : Int32} {most_a0 : Int32} {limit_a0 : Int32} {open_a0 : Int32} {wrongPlace_a0 : Int32} {goodPhrases_a0 : Int32} (e_a0 : h a0 = some (.inr (0, [va_rf draft_a0, va_rf texts_a0, va_rf weights_a0, va_rf store_a0, va_rf saved_a0, va_rf question_a0, va_rf standing_a0, va_rf answers_a0, .int draftLength_a0, .int most_a0, .int limit_a0, .int open_a0, .int wrongPlace_a0, .int goodPhrases_a0]))) (kt : ¬ open_a0 = 0 → xw G m_Shelf_rollback F L bc bs pr px 17 [some (.ref a0)] [] h) (kf : open_a0 = 0 → xw G m_Shelf_rollback F L bc bs pr px 7 [none] [] h) : xw G m_Shelf_rollback F L bc bs pr px 0 [some (.ref a0)] [] h := by
  refine x_aload_n d_Shelf_rollback_0 rfl rfl ?_
  refine x_get d_Shelf_rollback_1 f_Shelf_132 e_a0 rfl ?_
  refine x_if_ne (tgt := 17) d_Shelf_rollback_4 (by decide) (fun hc => ?_) (fun hc => ?_)
  · exact kt hc
  · exact x_le (lv' := [none]) (xw_le_n xw_le_e) (kf hc)
theorem s_Shelf_rollback_17 {G : xw_G} {F L bc bs : Nat} {pr : Option Value → xw_A → Prop} {px : String → xw_A → Prop} {h : xw_A} {a0 : Nat} {draft_a0 : Option Nat} {texts_a0 : Option Nat} {weights_a0 : Option Nat} {store_a0 : Option Nat} {saved_a0 : Option Nat} {question_a0 : Option Nat} {standing_a0 : Option Nat} {answers_a0 : Option Nat} {draftLength_a0 : Int32} {most_a0 : Int32} {limit_a0 : Int32} {open_a0 : Int32} {wrongPlace_a0 : Int32} {goodPhrases_a0 : Int32} (e_a0 : h a0 = some (.inr (0, [va_rf draft_a0, va_rf texts_a0, va_rf weights_a0, va_rf store_a0, va_rf saved_a0, va_rf question_a0, va_rf standing_a0, va_rf answers_a0, .int draftLength_a0, .int most_a0, .int limit_a0, .int open_a0, .int wrongPlace_a0, .int goodPhrases_a0]))) (k : xw G m_Shelf_rollback F L bc bs pr px 30 [some (.ref a0)] [va_rf saved_a0, va_rf store_a0] (xw_up h a0 (.inr (0, [va_rf draft_a0, va_rf texts_a0, va_rf weights_a0, va_rf store_a0, va_rf saved_a0, va_rf question_a0, va_rf standing_a0, va_rf answers_a0, .int draftLength_a0, .int most_a0, .int limit_a0, .int 0, .int wrongPlace_a0, .int goodPhrases_a0])))) : xw G m_Shelf_rollback F L bc bs pr px 17 [some (.ref a0)] [] h := by
  refine x_aload_n d_Shelf_rollback_17 rfl rfl ?_
  refine x_iconst (v := 0) d_Shelf_rollback_18 (by decide) ?_
  refine x_put (ty := .boolean) d_Shelf_rollback_19 f_Shelf_132 fw_Shelf_11.1 fw_Shelf_11.2 rfl rfl (Nat.le_of_ble_eq_true rfl) e_a0 ?_
  show xw G m_Shelf_rollback F L bc bs pr px 22 [some (.ref a0)] [] (xw_up h a0 (.inr (0, [va_rf draft_a0, va_rf texts_a0, va_rf weights_a0, va_rf store_a0, va_rf saved_a0, va_rf question_a0, va_rf standing_a0, va_rf answers_a0, .int draftLength_a0, .int most_a0, .int limit_a0, .int 0, .int wrongPlace_a0, .int goodPhrases_a0])))
  refine x_aload_n d_Shelf_rollback_22 rfl rfl ?_
  refine x_get d_Shelf_rollback_23 f_Shelf_26 (xw_up_s _ _ _) rfl ?_
  refine x_aload_n d_Shelf_rollback_26 rfl rfl ?_
  refine x_get d_Shelf_rollback_27 f_Shelf_30 (xw_up_s _ _ _) rfl ?_
  exact k
theorem s_Shelf_rollback_33 {G : xw_G} {F L bc bs : Nat} {pr : Option Value → xw_A → Prop} {px : String → xw_A → Prop} {h : xw_A} {a0 : Nat} {draft_a0 : Option Nat} {texts_a0 : Option Nat} {weights_a0 : Option Nat} {store_a0 : Option Nat} {saved_a0 : Option Nat} {question_a0 : Option Nat} {standing_a0 : Option Nat} {answers_a0 : Option Nat} {draftLength_a0 : Int32} {most_a0 : Int32} {limit_a0 : Int32} {open_a0 : Int32} {wrongPlace_a0 : Int32} {goodPhrases_a0 : Int32} (e_a0 : h a0 = some (.inr (0, [va_rf draft_a0, va_rf texts_a0, va_rf weights_a0, va_rf store_a0, va_rf saved_a0, va_rf question_a0, va_rf standing_a0, va_rf answers_a0, .int draftLength_a0, .int most_a0, .int limit_a0, .int open_a0, .int wrongPlace_a0, .int goodPhrases_a0]))) (k : xw G m_Shelf_rollback F L bc bs pr px 37 [some (.ref a0)] [va_rf store_a0] h) : xw G m_Shelf_rollback F L bc bs pr px 33 [some (.ref a0)] [] h := by
  refine x_aload_n d_Shelf_rollback_33 rfl rfl ?_
  refine x_get d_Shelf_rollback_34 f_Shelf_26 e_a0 rfl ?_
  exact k
theorem s_Shelf_rollback_40 {G : xw_G} {F L bc bs : Nat} {pr : Option Value → xw_A → Prop} {px : String → xw_A → Prop} {h : xw_A} {y0 : Int32}  (kr : pr (some (.int y0)) h) : xw G m_Shelf_rollback F L bc bs pr px 40 [none] [.int y0] h := by
  exact x_iret d_Shelf_rollback_40 rfl kr
theorem s_Shelf_ways_0 {G : xw_G} {F L bc bs : Nat} {pr : Option Value → xw_A → Prop} {px : String → xw_A → Prop} {h : xw_A} {a0 : Nat} {x1 : Int32} {x2 : Int32}  (kt : x1 < 1 → xw G m_Shelf_ways F L bc bs pr px 22 [none, none, none] [] h) (kf : ¬ x1 < 1 → xw G m_Shelf_ways F L bc bs pr px 5 [some (.ref a0), some (.int x1), some (.int x2)] [] h) : xw G m_Shelf_ways F L bc bs pr px 0 [some (.ref a0), some (.int x1), some (.int x2)] [] h := by
  refine x_iload_n d_Shelf_ways_0 rfl rfl ?_
  refine x_iconst (v := 1) d_Shelf_ways_1 (by decide) ?_
  refine x_icmp_lt (tgt := 22) d_Shelf_ways_2 (by decide) (fun hc => ?_) (fun hc => ?_)
  · exact x_le (lv' := [none, none, none]) (xw_le_n (xw_le_n (xw_le_n xw_le_e))) (kt hc)
  · exact kf hc
theorem s_Shelf_ways_5 {G : xw_G} {F L bc bs : Nat} {pr : Option Value → xw_A → Prop} {px : String → xw_A → Prop} {h : xw_A} {a0 : Nat} {x1 : Int32} {x2 : Int32}  (kt : 9 < x1 → xw G m_Shelf_ways F L bc bs pr px 22 [none, none, none] [] h) (kf : ¬ 9 < x1 → xw G m_Shelf_ways F L bc bs pr px 11 [some (.ref a0), some (.int x1), some (.int x2)] [] h) : xw G m_Shelf_ways F L bc bs pr px 5 [some (.ref a0), some (.int x1), some (.int x2)] [] h := by
  refine x_iload_n d_Shelf_ways_5 rfl rfl ?_
  refine x_bipush (v := 9) d_Shelf_ways_6 (by decide) ?_
  refine x_icmp_gt (tgt := 22) d_Shelf_ways_8 (by decide) (fun hc => ?_) (fun hc => ?_)
  · exact x_le (lv' := [none, none, none]) (xw_le_n (xw_le_n (xw_le_n xw_le_e))) (kt hc)
  · exact kf hc
theorem s_Shelf_ways_11 {G : xw_G} {F L bc bs : Nat} {pr : Option Value → xw_A → Prop} {px : String → xw_A → Prop} {h : xw_A} {a0 : Nat} {x1 : Int32} {x2 : Int32}  (kt : x2 < 0 → xw G m_Shelf_ways F L bc bs pr px 22 [none, none, none] [] h) (kf : ¬ x2 < 0 → xw G m_Shelf_ways F L bc bs pr px 15 [some (.ref a0), some (.int x1), some (.int x2)] [] h) : xw G m_Shelf_ways F L bc bs pr px 11 [some (.ref a0), some (.int x1), some (.int x2)] [] h := by
  refine x_iload_n d_Shelf_ways_11 rfl rfl ?_
  refine x_if_lt (tgt := 22) d_Shelf_ways_12 (by decide) (fun hc => ?_) (fun hc => ?_)
  · exact x_le (lv' := [none, none, none]) (xw_le_n (xw_le_n (xw_le_n xw_le_e))) (kt hc)
  · exact kf hc
theorem s_Shelf_ways_15 {G : xw_G} {F L bc bs : Nat} {pr : Option Value → xw_A → Prop} {px : String → xw_A → Prop} {h : xw_A} {a0 : Nat} {x1 : Int32} {x2 : Int32}  (kt : x2 ≤ 200 → xw G m_Shelf_ways F L bc bs pr px 32 [some (.ref a0), some (.int x1), some (.int x2)] [] h) (kf : ¬ x2 ≤ 200 → xw G m_Shelf_ways F L bc bs pr px 22 [none, none, none] [] h) : xw G m_Shelf_ways F L bc bs pr px 15 [some (.ref a0), some (.int x1), some (.int x2)] [] h := by
  refine x_iload_n d_Shelf_ways_15 rfl rfl ?_
  refine x_sipush (v := 200) d_Shelf_ways_16 (by decide) ?_
  refine x_icmp_le (tgt := 32) d_Shelf_ways_19 (by decide) (fun hc => ?_) (fun hc => ?_)
  · exact kt hc
  · exact x_le (lv' := [none, none, none]) (xw_le_n (xw_le_n (xw_le_n xw_le_e))) (kf hc)
theorem s_Shelf_ways_32 {G : xw_G} {F L bc bs : Nat} {pr : Option Value → xw_A → Prop} {px : String → xw_A → Prop} {h : xw_A} {a0 : Nat} {x1 : Int32} {x2 : Int32} {draft_a0 : Option Nat} {texts_a0 : Option Nat} {weights_a0 : Option Nat} {store_a0 : Option Nat} {saved_a0 : Option Nat} {question_a0 : Option Nat} {standing_a0 : Option Nat} {answers_a0 : Option Nat} {draftLength_a0 : Int32} {most_a0 : Int32} {limit_a0 : Int32} {open_a0 : Int32} {wrongPlace_a0 : Int32} {goodPhrases_a0 : Int32} (e_a0 : h a0 = some (.inr (0, [va_rf draft_a0, va_rf texts_a0, va_rf weights_a0, va_rf store_a0, va_rf saved_a0, va_rf question_a0, va_rf standing_a0, va_rf answers_a0, .int draftLength_a0, .int most_a0, .int limit_a0, .int open_a0, .int wrongPlace_a0, .int goodPhrases_a0]))) (kr : pr none (xw_up (xw_up h a0 (.inr (0, [va_rf draft_a0, va_rf texts_a0, va_rf weights_a0, va_rf store_a0, va_rf saved_a0, va_rf question_a0, va_rf standing_a0, va_rf answers_a0, .int draftLength_a0, .int x1, .int limit_a0, .int open_a0, .int wrongPlace_a0, .int goodPhrases_a0]))) a0 (.inr (0, [va_rf draft_a0, va_rf texts_a0, va_rf weights_a0, va_rf store_a0, va_rf saved_a0, va_rf question_a0, va_rf standing_a0, va_rf answers_a0, .int draftLength_a0, .int x1, .int x2, .int open_a0, .int wrongPlace_a0, .int goodPhrases_a0])))) : xw G m_Shelf_ways F L bc bs pr px 32 [some (.ref a0), some (.int x1), some (.int x2)] [] h := by
  refine x_aload_n d_Shelf_ways_32 rfl rfl ?_
  refine x_iload_n d_Shelf_ways_33 rfl rfl ?_
  refine x_put (ty := .int) d_Shelf_ways_34 f_Shelf_57 fw_Shelf_9.1 fw_Shelf_9.2 rfl rfl (Nat.le_of_ble_eq_true rfl) e_a0 ?_
  show xw G m_Shelf_ways F L bc bs pr px 37 [some (.ref a0), some (.int x1), some (.int x2)] [] (xw_up h a0 (.inr (0, [va_rf draft_a0, va_rf texts_a0, va_rf weights_a0, va_rf store_a0, va_rf saved_a0, va_rf question_a0, va_rf standing_a0, va_rf answers_a0, .int draftLength_a0, .int x1, .int limit_a0, .int open_a0, .int wrongPlace_a0, .int goodPhrases_a0])))
  refine x_aload_n d_Shelf_ways_37 rfl rfl ?_
  refine x_iload_n d_Shelf_ways_38 rfl rfl ?_
  refine x_put (ty := .int) d_Shelf_ways_39 f_Shelf_61 fw_Shelf_10.1 fw_Shelf_10.2 rfl rfl (Nat.le_of_ble_eq_true rfl) (xw_up_s _ _ _) ?_
  show xw G m_Shelf_ways F L bc bs pr px 42 [some (.ref a0), some (.int x1), some (.int x2)] [] (xw_up (xw_up h a0 (.inr (0, [va_rf draft_a0, va_rf texts_a0, va_rf weights_a0, va_rf store_a0, va_rf saved_a0, va_rf question_a0, va_rf standing_a0, va_rf answers_a0, .int draftLength_a0, .int x1, .int limit_a0, .int open_a0, .int wrongPlace_a0, .int goodPhrases_a0]))) a0 (.inr (0, [va_rf draft_a0, va_rf texts_a0, va_rf weights_a0, va_rf store_a0, va_rf saved_a0, va_rf question_a0, va_rf standing_a0, va_rf answers_a0, .int draftLength_a0, .int x1, .int x2, .int open_a0, .int wrongPlace_a0, .int goodPhrases_a0])))
  exact x_vret d_Shelf_ways_42 rfl kr
theorem s_Shelf_weight_0 {G : xw_G} {F L bc bs : Nat} {pr : Option Value → xw_A → Prop} {px : String → xw_A → Prop} {h : xw_A} {a0 : Nat} {x1 : Int32} {x2 : Int32}  (k : xw G m_Shelf_weight F L bc bs pr px 1 [some (.ref a0), some (.int x1), some (.int x2), none] [.int x1] h) : xw G m_Shelf_weight F L bc bs pr px 0 [some (.ref a0), some (.int x1), some (.int x2), none] [] h := by
  refine x_iload_n d_Shelf_weight_0 rfl rfl ?_
  exact k
theorem s_Shelf_weight_4 {G : xw_G} {F L bc bs : Nat} {pr : Option Value → xw_A → Prop} {px : String → xw_A → Prop} {h : xw_A} {a0 : Nat} {x1 : Int32} {x2 : Int32} {y0 : Int32}  (kt : y0 = 0 → xw G m_Shelf_weight F L bc bs pr px 17 [none, none, none, none] [] h) (kf : ¬ y0 = 0 → xw G m_Shelf_weight F L bc bs pr px 7 [some (.ref a0), some (.int x1), some (.int x2), none] [] h) : xw G m_Shelf_weight F L bc bs pr px 4 [some (.ref a0), some (.int x1), some (.int x2), none] [.int y0] h := by
  refine x_if_eq (tgt := 17) d_Shelf_weight_4 (by decide) (fun hc => ?_) (fun hc => ?_)
  · exact x_le (lv' := [none, none, none, none]) (xw_le_n (xw_le_n (xw_le_n (xw_le_n xw_le_e)))) (kt hc)
  · exact kf hc
theorem s_Shelf_weight_7 {G : xw_G} {F L bc bs : Nat} {pr : Option Value → xw_A → Prop} {px : String → xw_A → Prop} {h : xw_A} {a0 : Nat} {x1 : Int32} {x2 : Int32}  (kt : x2 < 0 → xw G m_Shelf_weight F L bc bs pr px 17 [none, none, none, none] [] h) (kf : ¬ x2 < 0 → xw G m_Shelf_weight F L bc bs pr px 11 [some (.ref a0), some (.int x1), some (.int x2), none] [] h) : xw G m_Shelf_weight F L bc bs pr px 7 [some (.ref a0), some (.int x1), some (.int x2), none] [] h := by
  refine x_iload_n d_Shelf_weight_7 rfl rfl ?_
  refine x_if_lt (tgt := 17) d_Shelf_weight_8 (by decide) (fun hc => ?_) (fun hc => ?_)
  · exact x_le (lv' := [none, none, none, none]) (xw_le_n (xw_le_n (xw_le_n (xw_le_n xw_le_e)))) (kt hc)
  · exact kf hc
theorem s_Shelf_weight_11 {G : xw_G} {F L bc bs : Nat} {pr : Option Value → xw_A → Prop} {px : String → xw_A → Prop} {h : xw_A} {a0 : Nat} {x1 : Int32} {x2 : Int32}  (kt : x2 ≤ 9 → xw G m_Shelf_weight F L bc bs pr px 27 [some (.ref a0), some (.int x1), some (.int x2), none] [] h) (kf : ¬ x2 ≤ 9 → xw G m_Shelf_weight F L bc bs pr px 17 [none, none, none, none] [] h) : xw G m_Shelf_weight F L bc bs pr px 11 [some (.ref a0), some (.int x1), some (.int x2), none] [] h := by
  refine x_iload_n d_Shelf_weight_11 rfl rfl ?_
  refine x_bipush (v := 9) d_Shelf_weight_12 (by decide) ?_
  refine x_icmp_le (tgt := 27) d_Shelf_weight_14 (by decide) (fun hc => ?_) (fun hc => ?_)
  · exact kt hc
  · exact x_le (lv' := [none, none, none, none]) (xw_le_n (xw_le_n (xw_le_n (xw_le_n xw_le_e)))) (kf hc)
theorem s_Shelf_weight_27 {G : xw_G} {F L bc bs : Nat} {pr : Option Value → xw_A → Prop} {px : String → xw_A → Prop} {h : xw_A} {a0 : Nat} {x1 : Int32} {x2 : Int32} {draft_a0 : Option Nat} {texts_a0 : Option Nat} {weights_a0 : Nat} {store_a0 : Option Nat} {saved_a0 : Option Nat} {question_a0 : Option Nat} {standing_a0 : Option Nat} {answers_a0 : Option Nat} {draftLength_a0 : Int32} {most_a0 : Int32} {limit_a0 : Int32} {open_a0 : Int32} {wrongPlace_a0 : Int32} {goodPhrases_a0 : Int32} {n_weights_a0 : Nat} {f_weights_a0 : Nat → Int32} (e_a0 : h a0 = some (.inr (0, [va_rf draft_a0, va_rf texts_a0, .ref weights_a0, va_rf store_a0, va_rf saved_a0, va_rf question_a0, va_rf standing_a0, va_rf answers_a0, .int draftLength_a0, .int most_a0, .int limit_a0, .int open_a0, .int wrongPlace_a0, .int goodPhrases_a0]))) (e_weights_a0 : h weights_a0 = some (.inl (0, n_weights_a0, .inl f_weights_a0))) (i_32 : vp_in x1 n_weights_a0) (i_40 : vp_in x1 n_weights_a0) (kr : pr (some (.int (f_weights_a0 x1.toNatClampNeg))) (xw_up h weights_a0 (.inl (0, n_weights_a0, .inl (upd f_weights_a0 (x1).toNatClampNeg x2))))) : xw G m_Shelf_weight F L bc bs pr px 27 [some (.ref a0), some (.int x1), some (.int x2), none] [] h := by
  refine x_aload_n d_Shelf_weight_27 rfl rfl ?_
  refine x_get d_Shelf_weight_28 f_Shelf_19 e_a0 rfl ?_
  refine x_iload_n d_Shelf_weight_31 rfl rfl ?_
  refine x_iald d_Shelf_weight_32 e_weights_a0 i_32 ?_
  refine x_istore_n d_Shelf_weight_33 rfl (by decide) rfl ?_
  show xw G m_Shelf_weight F L bc bs pr px 34 [some (.ref a0), some (.int x1), some (.int x2), some (.int (f_weights_a0 x1.toNatClampNeg))] [] h
  refine x_aload_n d_Shelf_weight_34 rfl rfl ?_
  refine x_get d_Shelf_weight_35 f_Shelf_19 e_a0 rfl ?_
  refine x_iload_n d_Shelf_weight_38 rfl rfl ?_
  refine x_iload_n d_Shelf_weight_39 rfl rfl ?_
  refine x_iast d_Shelf_weight_40 e_weights_a0 i_40 ?_
  refine x_iload_n d_Shelf_weight_41 rfl rfl ?_
  exact x_iret d_Shelf_weight_42 rfl kr
theorem s_Shelf_ask_0 {G : xw_G} {F L bc bs : Nat} {pr : Option Value → xw_A → Prop} {px : String → xw_A → Prop} {h : xw_A} {a0 : Nat} {draft_a0 : Option Nat} {texts_a0 : Option Nat} {weights_a0 : Option Nat} {store_a0 : Option Nat} {saved_a0 : Option Nat} {question_a0 : Option Nat} {standing_a0 : Option Nat} {answers_a0 : Option Nat} {draftLength_a0 : Int32} {most_a0 : Int32} {limit_a0 : Int32} {open_a0 : Int32} {wrongPlace_a0 : Int32} {goodPhrases_a0 : Int32} (e_a0 : h a0 = some (.inr (0, [va_rf draft_a0, va_rf texts_a0, va_rf weights_a0, va_rf store_a0, va_rf saved_a0, va_rf question_a0, va_rf standing_a0, va_rf answers_a0, .int draftLength_a0, .int most_a0, .int limit_a0, .int open_a0, .int wrongPlace_a0, .int goodPhrases_a0]))) (k : xw G m_Shelf_ask F L bc bs pr px 19 [some (.ref a0), some (.int draftLength_a0), none] [.int draftLength_a0, va_rf draft_a0, va_rf question_a0] (xw_up h a0 (.inr (0, [va_rf draft_a0, va_rf texts_a0, va_rf weights_a0, va_rf store_a0, va_rf saved_a0, va_rf question_a0, va_rf standing_a0, va_rf answers_a0, .int 0, .int most_a0, .int limit_a0, .int open_a0, .int wrongPlace_a0, .int goodPhrases_a0])))) : xw G m_Shelf_ask F L bc bs pr px 0 [some (.ref a0), none, none] [] h := by
  refine x_aload_n d_Shelf_ask_0 rfl rfl ?_
  refine x_get d_Shelf_ask_1 f_Shelf_78 e_a0 rfl ?_
  refine x_istore_n d_Shelf_ask_4 rfl (by decide) rfl ?_
  show xw G m_Shelf_ask F L bc bs pr px 5 [some (.ref a0), some (.int draftLength_a0), none] [] h
  refine x_aload_n d_Shelf_ask_5 rfl rfl ?_
  refine x_iconst (v := 0) d_Shelf_ask_6 (by decide) ?_
  refine x_put (ty := .int) d_Shelf_ask_7 f_Shelf_78 fw_Shelf_8.1 fw_Shelf_8.2 rfl rfl (Nat.le_of_ble_eq_true rfl) e_a0 ?_
  show xw G m_Shelf_ask F L bc bs pr px 10 [some (.ref a0), some (.int draftLength_a0), none] [] (xw_up h a0 (.inr (0, [va_rf draft_a0, va_rf texts_a0, va_rf weights_a0, va_rf store_a0, va_rf saved_a0, va_rf question_a0, va_rf standing_a0, va_rf answers_a0, .int 0, .int most_a0, .int limit_a0, .int open_a0, .int wrongPlace_a0, .int goodPhrases_a0])))
  refine x_aload_n d_Shelf_ask_10 rfl rfl ?_
  refine x_get d_Shelf_ask_11 f_Shelf_36 (xw_up_s _ _ _) rfl ?_
  refine x_aload_n d_Shelf_ask_14 rfl rfl ?_
  refine x_get d_Shelf_ask_15 f_Shelf_9 (xw_up_s _ _ _) rfl ?_
  refine x_iload_n d_Shelf_ask_18 rfl rfl ?_
  exact k
theorem s_Shelf_ask_22 {G : xw_G} {F L bc bs : Nat} {pr : Option Value → xw_A → Prop} {px : String → xw_A → Prop} {h : xw_A} {a0 : Nat} {y0 : Int32} {draft_a0 : Option Nat} {texts_a0 : Option Nat} {weights_a0 : Option Nat} {store_a0 : Option Nat} {saved_a0 : Option Nat} {question_a0 : Nat} {standing_a0 : Option Nat} {answers_a0 : Option Nat} {draftLength_a0 : Int32} {most_a0 : Int32} {limit_a0 : Int32} {open_a0 : Int32} {wrongPlace_a0 : Int32} {goodPhrases_a0 : Int32} {tokens_question_a0 : Option Nat} {phrases_question_a0 : Option Nat} {nodes_question_a0 : Option Nat} {phraseCount_question_a0 : Int32} {nodeCount_question_a0 : Int32} {wrongPlace_question_a0 : Int32} {parts_question_a0 : Option Nat} {letters_question_a0 : Option Nat} {at_question_a0 : Int32} (e_a0 : h a0 = some (.inr (0, [va_rf draft_a0, va_rf texts_a0, va_rf weights_a0, va_rf store_a0, va_rf saved_a0, .ref question_a0, va_rf standing_a0, va_rf answers_a0, .int draftLength_a0, .int most_a0, .int limit_a0, .int open_a0, .int wrongPlace_a0, .int goodPhrases_a0]))) (e_question_a0 : h question_a0 = some (.inr (5, [va_rf tokens_question_a0, va_rf phrases_question_a0, va_rf nodes_question_a0, .int phraseCount_question_a0, .int nodeCount_question_a0, .int wrongPlace_question_a0, va_rf parts_question_a0, va_rf letters_question_a0, .int at_question_a0]))) (kt : ¬ y0 = 0 → xw G m_Shelf_ask F L bc bs pr px 48 [some (.ref a0), none, none] [] (xw_up h a0 (.inr (0, [va_rf draft_a0, va_rf texts_a0, va_rf weights_a0, va_rf store_a0, va_rf saved_a0, .ref question_a0, va_rf standing_a0, va_rf answers_a0, .int draftLength_a0, .int most_a0, .int limit_a0, .int open_a0, .int wrongPlace_question_a0, .int goodPhrases_a0])))) (kf : y0 = 0 → xw G m_Shelf_ask F L bc bs pr px 38 [none, none, none] [] (xw_up h a0 (.inr (0, [va_rf draft_a0, va_rf texts_a0, va_rf weights_a0, va_rf store_a0, va_rf saved_a0, .ref question_a0, va_rf standing_a0, va_rf answers_a0, .int draftLength_a0, .int most_a0, .int limit_a0, .int open_a0, .int wrongPlace_question_a0, .int goodPhrases_a0])))) : xw G m_Shelf_ask F L bc bs pr px 22 [some (.ref a0), none, none] [.int y0] h := by
  refine x_istore_n d_Shelf_ask_22 rfl (by decide) trivial ?_
  show xw G m_Shelf_ask F L bc bs pr px 23 [some (.ref a0), none, some (.int y0)] [] h
  refine x_aload_n d_Shelf_ask_23 rfl rfl ?_
  refine x_aload_n d_Shelf_ask_24 rfl rfl ?_
  refine x_get d_Shelf_ask_25 f_Shelf_36 e_a0 rfl ?_
  refine x_get d_Shelf_ask_28 f_Shelf_167 e_question_a0 rfl ?_
  refine x_put (ty := .int) d_Shelf_ask_31 f_Shelf_64 fw_Shelf_12.1 fw_Shelf_12.2 rfl rfl (Nat.le_of_ble_eq_true rfl) e_a0 ?_
  show xw G m_Shelf_ask F L bc bs pr px 34 [some (.ref a0), none, some (.int y0)] [] (xw_up h a0 (.inr (0, [va_rf draft_a0, va_rf texts_a0, va_rf weights_a0, va_rf store_a0, va_rf saved_a0, .ref question_a0, va_rf standing_a0, va_rf answers_a0, .int draftLength_a0, .int most_a0, .int limit_a0, .int open_a0, .int wrongPlace_question_a0, .int goodPhrases_a0])))
  refine x_iload_n d_Shelf_ask_34 rfl rfl ?_
  refine x_if_ne (tgt := 48) d_Shelf_ask_35 (by decide) (fun hc => ?_) (fun hc => ?_)
  · exact x_le (lv' := [some (.ref a0), none, none]) (xw_le_s (xw_le_n (xw_le_n xw_le_e))) (kt hc)
  · exact x_le (lv' := [none, none, none]) (xw_le_n (xw_le_n (xw_le_n xw_le_e))) (kf hc)
theorem s_Shelf_ask_48 {G : xw_G} {F L bc bs : Nat} {pr : Option Value → xw_A → Prop} {px : String → xw_A → Prop} {h : xw_A} {a0 : Nat} {draft_a0 : Option Nat} {texts_a0 : Option Nat} {weights_a0 : Option Nat} {store_a0 : Option Nat} {saved_a0 : Option Nat} {question_a0 : Nat} {standing_a0 : Option Nat} {answers_a0 : Option Nat} {draftLength_a0 : Int32} {most_a0 : Int32} {limit_a0 : Int32} {open_a0 : Int32} {wrongPlace_a0 : Int32} {goodPhrases_a0 : Int32} {tokens_question_a0 : Option Nat} {phrases_question_a0 : Option Nat} {nodes_question_a0 : Option Nat} {phraseCount_question_a0 : Int32} {nodeCount_question_a0 : Int32} {wrongPlace_question_a0 : Int32} {parts_question_a0 : Option Nat} {letters_question_a0 : Option Nat} {at_question_a0 : Int32} (e_a0 : h a0 = some (.inr (0, [va_rf draft_a0, va_rf texts_a0, va_rf weights_a0, va_rf store_a0, va_rf saved_a0, .ref question_a0, va_rf standing_a0, va_rf answers_a0, .int draftLength_a0, .int most_a0, .int limit_a0, .int open_a0, .int wrongPlace_a0, .int goodPhrases_a0]))) (e_question_a0 : h question_a0 = some (.inr (5, [va_rf tokens_question_a0, va_rf phrases_question_a0, va_rf nodes_question_a0, .int phraseCount_question_a0, .int nodeCount_question_a0, .int wrongPlace_question_a0, va_rf parts_question_a0, va_rf letters_question_a0, .int at_question_a0]))) (k : xw G m_Shelf_ask F L bc bs pr px 71 [some (.ref a0), none, none] [va_rf store_a0, .ref question_a0, va_rf standing_a0] (xw_up h a0 (.inr (0, [va_rf draft_a0, va_rf texts_a0, va_rf weights_a0, va_rf store_a0, va_rf saved_a0, .ref question_a0, va_rf standing_a0, va_rf answers_a0, .int draftLength_a0, .int most_a0, .int limit_a0, .int open_a0, .int wrongPlace_a0, .int phraseCount_question_a0])))) : xw G m_Shelf_ask F L bc bs pr px 48 [some (.ref a0), none, none] [] h := by
  refine x_aload_n d_Shelf_ask_48 rfl rfl ?_
  refine x_aload_n d_Shelf_ask_49 rfl rfl ?_
  refine x_get d_Shelf_ask_50 f_Shelf_36 e_a0 rfl ?_
  refine x_get d_Shelf_ask_53 f_Shelf_170 e_question_a0 rfl ?_
  refine x_put (ty := .int) d_Shelf_ask_56 f_Shelf_173 fw_Shelf_13.1 fw_Shelf_13.2 rfl rfl (Nat.le_of_ble_eq_true rfl) e_a0 ?_
  show xw G m_Shelf_ask F L bc bs pr px 59 [some (.ref a0), none, none] [] (xw_up h a0 (.inr (0, [va_rf draft_a0, va_rf texts_a0, va_rf weights_a0, va_rf store_a0, va_rf saved_a0, .ref question_a0, va_rf standing_a0, va_rf answers_a0, .int draftLength_a0, .int most_a0, .int limit_a0, .int open_a0, .int wrongPlace_a0, .int phraseCount_question_a0])))
  refine x_aload_n d_Shelf_ask_59 rfl rfl ?_
  refine x_get d_Shelf_ask_60 f_Shelf_43 (xw_up_s _ _ _) rfl ?_
  refine x_aload_n d_Shelf_ask_63 rfl rfl ?_
  refine x_get d_Shelf_ask_64 f_Shelf_36 (xw_up_s _ _ _) rfl ?_
  refine x_aload_n d_Shelf_ask_67 rfl rfl ?_
  refine x_get d_Shelf_ask_68 f_Shelf_26 (xw_up_s _ _ _) rfl ?_
  exact k
theorem s_Shelf_ask_74 {G : xw_G} {F L bc bs : Nat} {pr : Option Value → xw_A → Prop} {px : String → xw_A → Prop} {h : xw_A} {a0 : Nat} {draft_a0 : Option Nat} {texts_a0 : Option Nat} {weights_a0 : Option Nat} {store_a0 : Option Nat} {saved_a0 : Option Nat} {question_a0 : Option Nat} {standing_a0 : Option Nat} {answers_a0 : Option Nat} {draftLength_a0 : Int32} {most_a0 : Int32} {limit_a0 : Int32} {open_a0 : Int32} {wrongPlace_a0 : Int32} {goodPhrases_a0 : Int32} (e_a0 : h a0 = some (.inr (0, [va_rf draft_a0, va_rf texts_a0, va_rf weights_a0, va_rf store_a0, va_rf saved_a0, va_rf question_a0, va_rf standing_a0, va_rf answers_a0, .int draftLength_a0, .int most_a0, .int limit_a0, .int open_a0, .int wrongPlace_a0, .int goodPhrases_a0]))) (k : xw G m_Shelf_ask F L bc bs pr px 86 [some (.ref a0), none, none] [va_rf question_a0, va_rf standing_a0, va_rf answers_a0] h) : xw G m_Shelf_ask F L bc bs pr px 74 [some (.ref a0), none, none] [] h := by
  refine x_aload_n d_Shelf_ask_74 rfl rfl ?_
  refine x_get d_Shelf_ask_75 f_Shelf_50 e_a0 rfl ?_
  refine x_aload_n d_Shelf_ask_78 rfl rfl ?_
  refine x_get d_Shelf_ask_79 f_Shelf_43 e_a0 rfl ?_
  refine x_aload_n d_Shelf_ask_82 rfl rfl ?_
  refine x_get d_Shelf_ask_83 f_Shelf_36 e_a0 rfl ?_
  exact k
theorem s_Shelf_ask_89 {G : xw_G} {F L bc bs : Nat} {pr : Option Value → xw_A → Prop} {px : String → xw_A → Prop} {h : xw_A} {a0 : Nat} {y0 : Int32} {b1 : Nat} {draft_a0 : Option Nat} {texts_a0 : Option Nat} {weights_a0 : Option Nat} {store_a0 : Option Nat} {saved_a0 : Option Nat} {question_a0 : Option Nat} {standing_a0 : Option Nat} {answers_a0 : Option Nat} {draftLength_a0 : Int32} {most_a0 : Int32} {limit_a0 : Int32} {open_a0 : Int32} {wrongPlace_a0 : Int32} {goodPhrases_a0 : Int32} (e_a0 : h a0 = some (.inr (0, [va_rf draft_a0, va_rf texts_a0, va_rf weights_a0, va_rf store_a0, va_rf saved_a0, va_rf question_a0, va_rf standing_a0, va_rf answers_a0, .int draftLength_a0, .int most_a0, .int limit_a0, .int open_a0, .int wrongPlace_a0, .int goodPhrases_a0]))) (k : xw G m_Shelf_ask F L bc bs pr px 93 [some (.ref a0), none, none] [va_rf store_a0, .int y0, .ref b1] h) : xw G m_Shelf_ask F L bc bs pr px 89 [some (.ref a0), none, none] [.int y0, .ref b1] h := by
  refine x_aload_n d_Shelf_ask_89 rfl rfl ?_
  refine x_get d_Shelf_ask_90 f_Shelf_26 e_a0 rfl ?_
  exact k
theorem s_Shelf_ask_96 {G : xw_G} {F L bc bs : Nat} {pr : Option Value → xw_A → Prop} {px : String → xw_A → Prop} {h : xw_A} {a0 : Nat} {draft_a0 : Option Nat} {texts_a0 : Option Nat} {weights_a0 : Option Nat} {store_a0 : Option Nat} {saved_a0 : Option Nat} {question_a0 : Option Nat} {standing_a0 : Option Nat} {answers_a0 : Option Nat} {draftLength_a0 : Int32} {most_a0 : Int32} {limit_a0 : Int32} {open_a0 : Int32} {wrongPlace_a0 : Int32} {goodPhrases_a0 : Int32} (e_a0 : h a0 = some (.inr (0, [va_rf draft_a0, va_rf texts_a0, va_rf weights_a0, va_rf store_a0, va_rf saved_a0, va_rf question_a0, va_rf standing_a0, va_rf answers_a0, .int draftLength_a0, .int most_a0, .int limit_a0, .int open_a0, .int wrongPlace_a0, .int goodPhrases_a0]))) (k : xw G m_Shelf_ask F L bc bs pr px 116 [some (.ref a0), none, none] [va_rf store_a0, va_rf weights_a0, .int goodPhrases_a0, va_rf standing_a0, va_rf answers_a0] h) : xw G m_Shelf_ask F L bc bs pr px 96 [some (.ref a0), none, none] [] h := by
  refine x_aload_n d_Shelf_ask_96 rfl rfl ?_
  refine x_get d_Shelf_ask_97 f_Shelf_50 e_a0 rfl ?_
  refine x_aload_n d_Shelf_ask_100 rfl rfl ?_
  refine x_get d_Shelf_ask_101 f_Shelf_43 e_a0 rfl ?_
  refine x_aload_n d_Shelf_ask_104 rfl rfl ?_
  refine x_get d_Shelf_ask_105 f_Shelf_173 e_a0 rfl ?_
  refine x_aload_n d_Shelf_ask_108 rfl rfl ?_
  refine x_get d_Shelf_ask_109 f_Shelf_19 e_a0 rfl ?_
  refine x_aload_n d_Shelf_ask_112 rfl rfl ?_
  refine x_get d_Shelf_ask_113 f_Shelf_26 e_a0 rfl ?_
  exact k
theorem s_Shelf_ask_119 {G : xw_G} {F L bc bs : Nat} {pr : Option Value → xw_A → Prop} {px : String → xw_A → Prop} {h : xw_A} {a0 : Nat} {draft_a0 : Option Nat} {texts_a0 : Option Nat} {weights_a0 : Option Nat} {store_a0 : Option Nat} {saved_a0 : Option Nat} {question_a0 : Option Nat} {standing_a0 : Option Nat} {answers_a0 : Nat} {draftLength_a0 : Int32} {most_a0 : Int32} {limit_a0 : Int32} {open_a0 : Int32} {wrongPlace_a0 : Int32} {goodPhrases_a0 : Int32} {rows_answers_a0 : Option Nat} {scores_answers_a0 : Option Nat} {size_answers_a0 : Int32} {lengths_answers_a0 : Option Nat} {order_answers_a0 : Option Nat} (e_a0 : h a0 = some (.inr (0, [va_rf draft_a0, va_rf texts_a0, va_rf weights_a0, va_rf store_a0, va_rf saved_a0, va_rf question_a0, va_rf standing_a0, .ref answers_a0, .int draftLength_a0, .int most_a0, .int limit_a0, .int open_a0, .int wrongPlace_a0, .int goodPhrases_a0]))) (e_answers_a0 : h answers_a0 = some (.inr (1, [va_rf rows_answers_a0, va_rf scores_answers_a0, .int size_answers_a0, va_rf lengths_answers_a0, va_rf order_answers_a0]))) (kr : pr (some (.int size_answers_a0)) h) : xw G m_Shelf_ask F L bc bs pr px 119 [some (.ref a0), none, none] [] h := by
  refine x_aload_n d_Shelf_ask_119 rfl rfl ?_
  refine x_get d_Shelf_ask_120 f_Shelf_50 e_a0 rfl ?_
  refine x_get d_Shelf_ask_123 f_Shelf_192 e_answers_a0 rfl ?_
  exact x_iret d_Shelf_ask_126 rfl kr
theorem s_Shelf_answer_0 {G : xw_G} {F L bc bs : Nat} {pr : Option Value → xw_A → Prop} {px : String → xw_A → Prop} {h : xw_A} {a0 : Nat} {x1 : Int32} {x2 : Int32} {draft_a0 : Option Nat} {texts_a0 : Option Nat} {weights_a0 : Option Nat} {store_a0 : Option Nat} {saved_a0 : Option Nat} {question_a0 : Option Nat} {standing_a0 : Option Nat} {answers_a0 : Option Nat} {draftLength_a0 : Int32} {most_a0 : Int32} {limit_a0 : Int32} {open_a0 : Int32} {wrongPlace_a0 : Int32} {goodPhrases_a0 : Int32} (e_a0 : h a0 = some (.inr (0, [va_rf draft_a0, va_rf texts_a0, va_rf weights_a0, va_rf store_a0, va_rf saved_a0, va_rf question_a0, va_rf standing_a0, va_rf answers_a0, .int draftLength_a0, .int most_a0, .int limit_a0, .int open_a0, .int wrongPlace_a0, .int goodPhrases_a0]))) (k : xw G m_Shelf_answer F L bc bs pr px 5 [some (.ref a0), some (.int x1), some (.int x2)] [.int x1, va_rf answers_a0] h) : xw G m_Shelf_answer F L bc bs pr px 0 [some (.ref a0), some (.int x1), some (.int x2)] [] h := by
  refine x_aload_n d_Shelf_answer_0 rfl rfl ?_
  refine x_get d_Shelf_answer_1 f_Shelf_50 e_a0 rfl ?_
  refine x_iload_n d_Shelf_answer_4 rfl rfl ?_
  exact k
theorem s_Shelf_answer_8 {G : xw_G} {F L bc bs : Nat} {pr : Option Value → xw_A → Prop} {px : String → xw_A → Prop} {h : xw_A} {a0 : Nat} {x1 : Int32} {x2 : Int32} {y0 : Int32}  (kt : ¬ y0 = 0 → xw G m_Shelf_answer F L bc bs pr px 21 [some (.ref a0), some (.int x1), some (.int x2)] [] h) (kf : y0 = 0 → xw G m_Shelf_answer F L bc bs pr px 11 [none, none, none] [] h) : xw G m_Shelf_answer F L bc bs pr px 8 [some (.ref a0), some (.int x1), some (.int x2)] [.int y0] h := by
  refine x_if_ne (tgt := 21) d_Shelf_answer_8 (by decide) (fun hc => ?_) (fun hc => ?_)
  · exact kt hc
  · exact x_le (lv' := [none, none, none]) (xw_le_n (xw_le_n (xw_le_n xw_le_e))) (kf hc)
theorem s_Shelf_answer_21 {G : xw_G} {F L bc bs : Nat} {pr : Option Value → xw_A → Prop} {px : String → xw_A → Prop} {h : xw_A} {a0 : Nat} {x1 : Int32} {x2 : Int32} {draft_a0 : Option Nat} {texts_a0 : Option Nat} {weights_a0 : Option Nat} {store_a0 : Option Nat} {saved_a0 : Option Nat} {question_a0 : Option Nat} {standing_a0 : Option Nat} {answers_a0 : Nat} {draftLength_a0 : Int32} {most_a0 : Int32} {limit_a0 : Int32} {open_a0 : Int32} {wrongPlace_a0 : Int32} {goodPhrases_a0 : Int32} {rows_answers_a0 : Option Nat} {scores_answers_a0 : Option Nat} {size_answers_a0 : Int32} {lengths_answers_a0 : Option Nat} {order_answers_a0 : Option Nat} (e_a0 : h a0 = some (.inr (0, [va_rf draft_a0, va_rf texts_a0, va_rf weights_a0, va_rf store_a0, va_rf saved_a0, va_rf question_a0, va_rf standing_a0, .ref answers_a0, .int draftLength_a0, .int most_a0, .int limit_a0, .int open_a0, .int wrongPlace_a0, .int goodPhrases_a0]))) (e_answers_a0 : h answers_a0 = some (.inr (1, [va_rf rows_answers_a0, va_rf scores_answers_a0, .int size_answers_a0, va_rf lengths_answers_a0, va_rf order_answers_a0]))) (k : xw G m_Shelf_answer F L bc bs pr px 34 [some (.ref a0), some (.int x1), some (.int x2)] [.int x2, .int x1, .ref answers_a0, va_rf rows_answers_a0] h) : xw G m_Shelf_answer F L bc bs pr px 21 [some (.ref a0), some (.int x1), some (.int x2)] [] h := by
  refine x_aload_n d_Shelf_answer_21 rfl rfl ?_
  refine x_get d_Shelf_answer_22 f_Shelf_50 e_a0 rfl ?_
  refine x_get d_Shelf_answer_25 f_Shelf_200 e_answers_a0 rfl ?_
  refine x_aload_n d_Shelf_answer_28 rfl rfl ?_
  refine x_get d_Shelf_answer_29 f_Shelf_50 e_a0 rfl ?_
  refine x_iload_n d_Shelf_answer_32 rfl rfl ?_
  refine x_iload_n d_Shelf_answer_33 rfl rfl ?_
  exact k
theorem s_Shelf_answer_37 {G : xw_G} {F L bc bs : Nat} {pr : Option Value → xw_A → Prop} {px : String → xw_A → Prop} {h : xw_A} {y0 : Int32} {b1 : Nat} {n_b1 : Nat} {f_b1 : Nat → Int32} (e_b1 : h b1 = some (.inl (0, n_b1, .inl f_b1))) (i_37 : vp_in y0 n_b1) (kr : pr (some (.int (f_b1 y0.toNatClampNeg))) h) : xw G m_Shelf_answer F L bc bs pr px 37 [none, none, none] [.int y0, .ref b1] h := by
  refine x_iald d_Shelf_answer_37 e_b1 i_37 ?_
  exact x_iret d_Shelf_answer_38 rfl kr
theorem s_Shelf_score_0 {G : xw_G} {F L bc bs : Nat} {pr : Option Value → xw_A → Prop} {px : String → xw_A → Prop} {h : xw_A} {a0 : Nat} {x1 : Int32} {x2 : Int32} {draft_a0 : Option Nat} {texts_a0 : Option Nat} {weights_a0 : Option Nat} {store_a0 : Option Nat} {saved_a0 : Option Nat} {question_a0 : Option Nat} {standing_a0 : Option Nat} {answers_a0 : Option Nat} {draftLength_a0 : Int32} {most_a0 : Int32} {limit_a0 : Int32} {open_a0 : Int32} {wrongPlace_a0 : Int32} {goodPhrases_a0 : Int32} (e_a0 : h a0 = some (.inr (0, [va_rf draft_a0, va_rf texts_a0, va_rf weights_a0, va_rf store_a0, va_rf saved_a0, va_rf question_a0, va_rf standing_a0, va_rf answers_a0, .int draftLength_a0, .int most_a0, .int limit_a0, .int open_a0, .int wrongPlace_a0, .int goodPhrases_a0]))) (k : xw G m_Shelf_score F L bc bs pr px 5 [some (.ref a0), some (.int x1), some (.int x2)] [.int x1, va_rf answers_a0] h) : xw G m_Shelf_score F L bc bs pr px 0 [some (.ref a0), some (.int x1), some (.int x2)] [] h := by
  refine x_aload_n d_Shelf_score_0 rfl rfl ?_
  refine x_get d_Shelf_score_1 f_Shelf_50 e_a0 rfl ?_
  refine x_iload_n d_Shelf_score_4 rfl rfl ?_
  exact k
theorem s_Shelf_score_8 {G : xw_G} {F L bc bs : Nat} {pr : Option Value → xw_A → Prop} {px : String → xw_A → Prop} {h : xw_A} {a0 : Nat} {x1 : Int32} {x2 : Int32} {y0 : Int32}  (kt : ¬ y0 = 0 → xw G m_Shelf_score F L bc bs pr px 21 [some (.ref a0), some (.int x1), some (.int x2)] [] h) (kf : y0 = 0 → xw G m_Shelf_score F L bc bs pr px 11 [none, none, none] [] h) : xw G m_Shelf_score F L bc bs pr px 8 [some (.ref a0), some (.int x1), some (.int x2)] [.int y0] h := by
  refine x_if_ne (tgt := 21) d_Shelf_score_8 (by decide) (fun hc => ?_) (fun hc => ?_)
  · exact kt hc
  · exact x_le (lv' := [none, none, none]) (xw_le_n (xw_le_n (xw_le_n xw_le_e))) (kf hc)
theorem s_Shelf_score_21 {G : xw_G} {F L bc bs : Nat} {pr : Option Value → xw_A → Prop} {px : String → xw_A → Prop} {h : xw_A} {a0 : Nat} {x1 : Int32} {x2 : Int32} {draft_a0 : Option Nat} {texts_a0 : Option Nat} {weights_a0 : Option Nat} {store_a0 : Option Nat} {saved_a0 : Option Nat} {question_a0 : Option Nat} {standing_a0 : Option Nat} {answers_a0 : Nat} {draftLength_a0 : Int32} {most_a0 : Int32} {limit_a0 : Int32} {open_a0 : Int32} {wrongPlace_a0 : Int32} {goodPhrases_a0 : Int32} {rows_answers_a0 : Option Nat} {scores_answers_a0 : Option Nat} {size_answers_a0 : Int32} {lengths_answers_a0 : Option Nat} {order_answers_a0 : Option Nat} (e_a0 : h a0 = some (.inr (0, [va_rf draft_a0, va_rf texts_a0, va_rf weights_a0, va_rf store_a0, va_rf saved_a0, va_rf question_a0, va_rf standing_a0, .ref answers_a0, .int draftLength_a0, .int most_a0, .int limit_a0, .int open_a0, .int wrongPlace_a0, .int goodPhrases_a0]))) (e_answers_a0 : h answers_a0 = some (.inr (1, [va_rf rows_answers_a0, va_rf scores_answers_a0, .int size_answers_a0, va_rf lengths_answers_a0, va_rf order_answers_a0]))) (k : xw G m_Shelf_score F L bc bs pr px 34 [some (.ref a0), some (.int x1), some (.int x2)] [.int x2, .int x1, .ref answers_a0, va_rf scores_answers_a0] h) : xw G m_Shelf_score F L bc bs pr px 21 [some (.ref a0), some (.int x1), some (.int x2)] [] h := by
  refine x_aload_n d_Shelf_score_21 rfl rfl ?_
  refine x_get d_Shelf_score_22 f_Shelf_50 e_a0 rfl ?_
  refine x_get d_Shelf_score_25 f_Shelf_207 e_answers_a0 rfl ?_
  refine x_aload_n d_Shelf_score_28 rfl rfl ?_
  refine x_get d_Shelf_score_29 f_Shelf_50 e_a0 rfl ?_
  refine x_iload_n d_Shelf_score_32 rfl rfl ?_
  refine x_iload_n d_Shelf_score_33 rfl rfl ?_
  exact k
theorem s_Shelf_score_37 {G : xw_G} {F L bc bs : Nat} {pr : Option Value → xw_A → Prop} {px : String → xw_A → Prop} {h : xw_A} {y0 : Int32} {b1 : Nat} {n_b1 : Nat} {f_b1 : Nat → UInt64} (e_b1 : h b1 = some (.inl (3, n_b1, .inr (.inr (.inr (.inl f_b1)))))) (i_37 : vp_in y0 n_b1) (kr : pr (some (.double (f_b1 y0.toNatClampNeg))) h) : xw G m_Shelf_score F L bc bs pr px 37 [none, none, none] [.int y0, .ref b1] h := by
  refine x_dald d_Shelf_score_37 e_b1 i_37 ?_
  exact x_dret d_Shelf_score_38 rfl kr
theorem s_Shelf_look_0 {G : xw_G} {F L bc bs : Nat} {pr : Option Value → xw_A → Prop} {px : String → xw_A → Prop} {h : xw_A} {a0 : Nat} {x1 : Int32} {x2 : Int32} {draft_a0 : Option Nat} {texts_a0 : Option Nat} {weights_a0 : Option Nat} {store_a0 : Option Nat} {saved_a0 : Option Nat} {question_a0 : Option Nat} {standing_a0 : Option Nat} {answers_a0 : Option Nat} {draftLength_a0 : Int32} {most_a0 : Int32} {limit_a0 : Int32} {open_a0 : Int32} {wrongPlace_a0 : Int32} {goodPhrases_a0 : Int32} (e_a0 : h a0 = some (.inr (0, [va_rf draft_a0, va_rf texts_a0, va_rf weights_a0, va_rf store_a0, va_rf saved_a0, va_rf question_a0, va_rf standing_a0, va_rf answers_a0, .int draftLength_a0, .int most_a0, .int limit_a0, .int open_a0, .int wrongPlace_a0, .int goodPhrases_a0]))) (k : xw G m_Shelf_look F L bc bs pr px 5 [some (.ref a0), some (.int x1), some (.int x2), none] [.int x1, va_rf store_a0] h) : xw G m_Shelf_look F L bc bs pr px 0 [some (.ref a0), some (.int x1), some (.int x2), none] [] h := by
  refine x_aload_n d_Shelf_look_0 rfl rfl ?_
  refine x_get d_Shelf_look_1 f_Shelf_26 e_a0 rfl ?_
  refine x_iload_n d_Shelf_look_4 rfl rfl ?_
  exact k
theorem s_Shelf_look_8 {G : xw_G} {F L bc bs : Nat} {pr : Option Value → xw_A → Prop} {px : String → xw_A → Prop} {h : xw_A} {x2 : Int32} {s0 : Option Nat}  (kn : s0 = none → xw G m_Shelf_look F L bc bs pr px 13 [none, none, none, none] [] h) (ks : ∀ a9 : Nat, s0 = some a9 → xw G m_Shelf_look F L bc bs pr px 23 [none, none, some (.int x2), some (va_rf s0)] [] h) : xw G m_Shelf_look F L bc bs pr px 8 [none, none, some (.int x2), none] [va_rf s0] h := by
  refine x_astoreq_n d_Shelf_look_8 rfl (by decide) rfl ?_
  show xw G m_Shelf_look F L bc bs pr px 9 [none, none, some (.int x2), some (va_rf s0)] [] h
  refine x_aloadq_n d_Shelf_look_9 rfl rfl ?_
  refine x_ifnonnullq (tgt := 23) d_Shelf_look_10 (by decide) (fun hc => ?_) (fun a9 hc => ?_)
  · exact x_le (lv' := [none, none, none, none]) (xw_le_n (xw_le_n (xw_le_n (xw_le_n xw_le_e)))) (kn hc)
  · exact ks a9 hc
theorem s_Shelf_look_23 {G : xw_G} {F L bc bs : Nat} {pr : Option Value → xw_A → Prop} {px : String → xw_A → Prop} {h : xw_A} {x2 : Int32} {r3 : Option Nat}  (kw : xw G m_Shelf_look F L bc bs pr px 24 [none, none, some (.int x2), some (va_rf r3)] [.int x2] h) : xw G m_Shelf_look F L bc bs pr px 23 [none, none, some (.int x2), some (va_rf r3)] [] h := by
  refine x_iload_n d_Shelf_look_23 rfl rfl ?_
  exact kw
theorem s_Shelf_look_52 {G : xw_G} {F L bc bs : Nat} {pr : Option Value → xw_A → Prop} {px : String → xw_A → Prop} {h : xw_A} {a3 : Nat} {number_a3 : Int32} {row_a3 : Int32} {first_a3 : Nat} {second_a3 : Option Nat} {entries_a3 : Int32} {letters_first_a3 : Option Nat} {starts_first_a3 : Option Nat} {count_first_a3 : Int32} (e_a3 : h a3 = some (.inr (10, [.int number_a3, .int row_a3, .ref first_a3, va_rf second_a3, .int entries_a3]))) (e_first_a3 : h first_a3 = some (.inr (9, [va_rf letters_first_a3, va_rf starts_first_a3, .int count_first_a3]))) (kr : pr (some (.int count_first_a3)) h) : xw G m_Shelf_look F L bc bs pr px 52 [none, none, none, some (.ref a3)] [] h := by
  refine x_aload_n d_Shelf_look_52 rfl rfl ?_
  refine x_get d_Shelf_look_53 f_Shelf_211 e_a3 rfl ?_
  refine x_get d_Shelf_look_56 f_Shelf_102 e_first_a3 rfl ?_
  exact x_iret d_Shelf_look_59 rfl kr
theorem s_Shelf_look_60 {G : xw_G} {F L bc bs : Nat} {pr : Option Value → xw_A → Prop} {px : String → xw_A → Prop} {h : xw_A} {a3 : Nat} {number_a3 : Int32} {row_a3 : Int32} {first_a3 : Option Nat} {second_a3 : Nat} {entries_a3 : Int32} {letters_second_a3 : Option Nat} {starts_second_a3 : Option Nat} {count_second_a3 : Int32} (e_a3 : h a3 = some (.inr (10, [.int number_a3, .int row_a3, va_rf first_a3, .ref second_a3, .int entries_a3]))) (e_second_a3 : h second_a3 = some (.inr (9, [va_rf letters_second_a3, va_rf starts_second_a3, .int count_second_a3]))) (kr : pr (some (.int count_second_a3)) h) : xw G m_Shelf_look F L bc bs pr px 60 [none, none, none, some (.ref a3)] [] h := by
  refine x_aload_n d_Shelf_look_60 rfl rfl ?_
  refine x_get d_Shelf_look_61 f_Shelf_215 e_a3 rfl ?_
  refine x_get d_Shelf_look_64 f_Shelf_102 e_second_a3 rfl ?_
  exact x_iret d_Shelf_look_67 rfl kr
theorem s_Shelf_look_68 {G : xw_G} {F L bc bs : Nat} {pr : Option Value → xw_A → Prop} {px : String → xw_A → Prop} {h : xw_A} {a3 : Nat} {number_a3 : Int32} {row_a3 : Int32} {first_a3 : Option Nat} {second_a3 : Option Nat} {entries_a3 : Int32} (e_a3 : h a3 = some (.inr (10, [.int number_a3, .int row_a3, va_rf first_a3, va_rf second_a3, .int entries_a3]))) (kr : pr (some (.int entries_a3)) h) : xw G m_Shelf_look F L bc bs pr px 68 [none, none, none, some (.ref a3)] [] h := by
  refine x_aload_n d_Shelf_look_68 rfl rfl ?_
  refine x_get d_Shelf_look_69 f_Shelf_218 e_a3 rfl ?_
  exact x_iret d_Shelf_look_72 rfl kr
theorem s_Shelf_segment_0 {G : xw_G} {F L bc bs : Nat} {pr : Option Value → xw_A → Prop} {px : String → xw_A → Prop} {h : xw_A} {a0 : Nat} {x1 : Int32} {x2 : Int32}  (kt : x1 < 0 → xw G m_Shelf_segment F L bc bs pr px 15 [none, none, none, none] [] h) (kf : ¬ x1 < 0 → xw G m_Shelf_segment F L bc bs pr px 4 [some (.ref a0), some (.int x1), some (.int x2), none] [] h) : xw G m_Shelf_segment F L bc bs pr px 0 [some (.ref a0), some (.int x1), some (.int x2), none] [] h := by
  refine x_iload_n d_Shelf_segment_0 rfl rfl ?_
  refine x_if_lt (tgt := 15) d_Shelf_segment_1 (by decide) (fun hc => ?_) (fun hc => ?_)
  · exact x_le (lv' := [none, none, none, none]) (xw_le_n (xw_le_n (xw_le_n (xw_le_n xw_le_e)))) (kt hc)
  · exact kf hc
theorem s_Shelf_segment_4 {G : xw_G} {F L bc bs : Nat} {pr : Option Value → xw_A → Prop} {px : String → xw_A → Prop} {h : xw_A} {a0 : Nat} {x1 : Int32} {x2 : Int32} {draft_a0 : Option Nat} {texts_a0 : Option Nat} {weights_a0 : Option Nat} {store_a0 : Nat} {saved_a0 : Option Nat} {question_a0 : Option Nat} {standing_a0 : Option Nat} {answers_a0 : Option Nat} {draftLength_a0 : Int32} {most_a0 : Int32} {limit_a0 : Int32} {open_a0 : Int32} {wrongPlace_a0 : Int32} {goodPhrases_a0 : Int32} {rows_store_a0 : Option Nat} {pending_store_a0 : Option Nat} {segments_store_a0 : Option Nat} {live_store_a0 : Option Nat} {pendingCount_store_a0 : Int32} {pendingEntries_store_a0 : Int32} {segmentCount_store_a0 : Int32} {versionsMade_store_a0 : Int32} {segmentsMade_store_a0 : Int32} {liveCount_store_a0 : Int32} (e_a0 : h a0 = some (.inr (0, [va_rf draft_a0, va_rf texts_a0, va_rf weights_a0, .ref store_a0, va_rf saved_a0, va_rf question_a0, va_rf standing_a0, va_rf answers_a0, .int draftLength_a0, .int most_a0, .int limit_a0, .int open_a0, .int wrongPlace_a0, .int goodPhrases_a0]))) (e_store_a0 : h store_a0 = some (.inr (8, [va_rf rows_store_a0, va_rf pending_store_a0, va_rf segments_store_a0, va_rf live_store_a0, .int pendingCount_store_a0, .int pendingEntries_store_a0, .int segmentCount_store_a0, .int versionsMade_store_a0, .int segmentsMade_store_a0, .int liveCount_store_a0]))) (kt : x1 < segmentCount_store_a0 → xw G m_Shelf_segment F L bc bs pr px 25 [some (.ref a0), some (.int x1), some (.int x2), none] [] h) (kf : ¬ x1 < segmentCount_store_a0 → xw G m_Shelf_segment F L bc bs pr px 15 [none, none, none, none] [] h) : xw G m_Shelf_segment F L bc bs pr px 4 [some (.ref a0), some (.int x1), some (.int x2), none] [] h := by
  refine x_iload_n d_Shelf_segment_4 rfl rfl ?_
  refine x_aload_n d_Shelf_segment_5 rfl rfl ?_
  refine x_get d_Shelf_segment_6 f_Shelf_26 e_a0 rfl ?_
  refine x_get d_Shelf_segment_9 f_Shelf_150 e_store_a0 rfl ?_
  refine x_icmp_lt (tgt := 25) d_Shelf_segment_12 (by decide) (fun hc => ?_) (fun hc => ?_)
  · exact kt hc
  · exact x_le (lv' := [none, none, none, none]) (xw_le_n (xw_le_n (xw_le_n (xw_le_n xw_le_e)))) (kf hc)
theorem s_Shelf_segment_25 {G : xw_G} {F L bc bs : Nat} {pr : Option Value → xw_A → Prop} {px : String → xw_A → Prop} {h : xw_A} {a0 : Nat} {x1 : Int32} {x2 : Int32} {draft_a0 : Option Nat} {texts_a0 : Option Nat} {weights_a0 : Option Nat} {store_a0 : Nat} {saved_a0 : Option Nat} {question_a0 : Option Nat} {standing_a0 : Option Nat} {answers_a0 : Option Nat} {draftLength_a0 : Int32} {most_a0 : Int32} {limit_a0 : Int32} {open_a0 : Int32} {wrongPlace_a0 : Int32} {goodPhrases_a0 : Int32} {rows_store_a0 : Option Nat} {pending_store_a0 : Option Nat} {segments_store_a0 : Nat} {live_store_a0 : Option Nat} {pendingCount_store_a0 : Int32} {pendingEntries_store_a0 : Int32} {segmentCount_store_a0 : Int32} {versionsMade_store_a0 : Int32} {segmentsMade_store_a0 : Int32} {liveCount_store_a0 : Int32} {n_segments_store_a0 : Nat} {f_segments_store_a0 : Nat → Option Nat} (e_a0 : h a0 = some (.inr (0, [va_rf draft_a0, va_rf texts_a0, va_rf weights_a0, .ref store_a0, va_rf saved_a0, va_rf question_a0, va_rf standing_a0, va_rf answers_a0, .int draftLength_a0, .int most_a0, .int limit_a0, .int open_a0, .int wrongPlace_a0, .int goodPhrases_a0]))) (e_store_a0 : h store_a0 = some (.inr (8, [va_rf rows_store_a0, va_rf pending_store_a0, .ref segments_store_a0, va_rf live_store_a0, .int pendingCount_store_a0, .int pendingEntries_store_a0, .int segmentCount_store_a0, .int versionsMade_store_a0, .int segmentsMade_store_a0, .int liveCount_store_a0]))) (e_segments_store_a0 : h segments_store_a0 = some (.inl (6 + 6, n_segments_store_a0, .inr (.inr (.inr (.inr f_segments_store_a0)))))) (i_33 : vp_in x1 n_segments_store_a0) (kw : xw G m_Shelf_segment F L bc bs pr px 36 [some (.ref a0), some (.int x1), some (.int x2), some (va_rf (f_segments_store_a0 x1.toNatClampNeg))] [.int x2] h) : xw G m_Shelf_segment F L bc bs pr px 25 [some (.ref a0), some (.int x1), some (.int x2), none] [] h := by
  refine x_aload_n d_Shelf_segment_25 rfl rfl ?_
  refine x_get d_Shelf_segment_26 f_Shelf_26 e_a0 rfl ?_
  refine x_get d_Shelf_segment_29 f_Shelf_225 e_store_a0 rfl ?_
  refine x_iload_n d_Shelf_segment_32 rfl rfl ?_
  refine x_aald d_Shelf_segment_33 e_segments_store_a0 i_33 rfl ?_
  refine x_astoreq_n d_Shelf_segment_34 rfl (by decide) rfl ?_
  show xw G m_Shelf_segment F L bc bs pr px 35 [some (.ref a0), some (.int x1), some (.int x2), some (va_rf (f_segments_store_a0 x1.toNatClampNeg))] [] h
  refine x_iload_n d_Shelf_segment_35 rfl rfl ?_
  exact kw
theorem s_Shelf_segment_64 {G : xw_G} {F L bc bs : Nat} {pr : Option Value → xw_A → Prop} {px : String → xw_A → Prop} {h : xw_A} {a3 : Nat} {level_a3 : Int32} {versions_a3 : Option Nat} {entries_a3 : Int32} (e_a3 : h a3 = some (.inr (6, [.int level_a3, va_rf versions_a3, .int entries_a3]))) (kr : pr (some (.int level_a3)) h) : xw G m_Shelf_segment F L bc bs pr px 64 [none, none, none, some (.ref a3)] [] h := by
  refine x_aload_n d_Shelf_segment_64 rfl rfl ?_
  refine x_get d_Shelf_segment_65 f_Shelf_229 e_a3 rfl ?_
  exact x_iret d_Shelf_segment_68 rfl kr
theorem s_Shelf_segment_69 {G : xw_G} {F L bc bs : Nat} {pr : Option Value → xw_A → Prop} {px : String → xw_A → Prop} {h : xw_A} {a3 : Nat} {level_a3 : Int32} {versions_a3 : Nat} {entries_a3 : Int32} {n_versions_a3 : Nat} {f_versions_a3 : Nat → Option Nat} (e_a3 : h a3 = some (.inr (6, [.int level_a3, .ref versions_a3, .int entries_a3]))) (e_versions_a3 : h versions_a3 = some (.inl (10 + 6, n_versions_a3, .inr (.inr (.inr (.inr f_versions_a3)))))) (kr : pr (some (.int (Int32.ofNat n_versions_a3))) h) : xw G m_Shelf_segment F L bc bs pr px 69 [none, none, none, some (.ref a3)] [] h := by
  refine x_aload_n d_Shelf_segment_69 rfl rfl ?_
  refine x_get d_Shelf_segment_70 f_Shelf_234 e_a3 rfl ?_
  refine x_alen d_Shelf_segment_73 e_versions_a3 rfl ?_
  exact x_iret d_Shelf_segment_74 rfl kr
theorem s_Shelf_segment_75 {G : xw_G} {F L bc bs : Nat} {pr : Option Value → xw_A → Prop} {px : String → xw_A → Prop} {h : xw_A} {a3 : Nat} {level_a3 : Int32} {versions_a3 : Option Nat} {entries_a3 : Int32} (e_a3 : h a3 = some (.inr (6, [.int level_a3, va_rf versions_a3, .int entries_a3]))) (kr : pr (some (.int entries_a3)) h) : xw G m_Shelf_segment F L bc bs pr px 75 [none, none, none, some (.ref a3)] [] h := by
  refine x_aload_n d_Shelf_segment_75 rfl rfl ?_
  refine x_get d_Shelf_segment_76 f_Shelf_238 e_a3 rfl ?_
  exact x_iret d_Shelf_segment_79 rfl kr
theorem s_Shelf_count_0 {G : xw_G} {F L bc bs : Nat} {pr : Option Value → xw_A → Prop} {px : String → xw_A → Prop} {h : xw_A} {a0 : Nat} {x1 : Int32}  (kw : xw G m_Shelf_count F L bc bs pr px 1 [some (.ref a0), some (.int x1)] [.int x1] h) : xw G m_Shelf_count F L bc bs pr px 0 [some (.ref a0), some (.int x1)] [] h := by
  refine x_iload_n d_Shelf_count_0 rfl rfl ?_
  exact kw
theorem s_Shelf_count_52 {G : xw_G} {F L bc bs : Nat} {pr : Option Value → xw_A → Prop} {px : String → xw_A → Prop} {h : xw_A} {a0 : Nat} {draft_a0 : Option Nat} {texts_a0 : Option Nat} {weights_a0 : Option Nat} {store_a0 : Option Nat} {saved_a0 : Option Nat} {question_a0 : Option Nat} {standing_a0 : Option Nat} {answers_a0 : Option Nat} {draftLength_a0 : Int32} {most_a0 : Int32} {limit_a0 : Int32} {open_a0 : Int32} {wrongPlace_a0 : Int32} {goodPhrases_a0 : Int32} (e_a0 : h a0 = some (.inr (0, [va_rf draft_a0, va_rf texts_a0, va_rf weights_a0, va_rf store_a0, va_rf saved_a0, va_rf question_a0, va_rf standing_a0, va_rf answers_a0, .int draftLength_a0, .int most_a0, .int limit_a0, .int open_a0, .int wrongPlace_a0, .int goodPhrases_a0]))) (k : xw G m_Shelf_count F L bc bs pr px 56 [some (.ref a0), none] [va_rf store_a0] h) : xw G m_Shelf_count F L bc bs pr px 52 [some (.ref a0), none] [] h := by
  refine x_aload_n d_Shelf_count_52 rfl rfl ?_
  refine x_get d_Shelf_count_53 f_Shelf_26 e_a0 rfl ?_
  exact k
theorem s_Shelf_count_59 {G : xw_G} {F L bc bs : Nat} {pr : Option Value → xw_A → Prop} {px : String → xw_A → Prop} {h : xw_A} {y0 : Int32}  (kr : pr (some (.int y0)) h) : xw G m_Shelf_count F L bc bs pr px 59 [none, none] [.int y0] h := by
  exact x_iret d_Shelf_count_59 rfl kr
theorem s_Shelf_count_60 {G : xw_G} {F L bc bs : Nat} {pr : Option Value → xw_A → Prop} {px : String → xw_A → Prop} {h : xw_A} {a0 : Nat} {draft_a0 : Option Nat} {texts_a0 : Option Nat} {weights_a0 : Option Nat} {store_a0 : Nat} {saved_a0 : Option Nat} {question_a0 : Option Nat} {standing_a0 : Option Nat} {answers_a0 : Option Nat} {draftLength_a0 : Int32} {most_a0 : Int32} {limit_a0 : Int32} {open_a0 : Int32} {wrongPlace_a0 : Int32} {goodPhrases_a0 : Int32} {rows_store_a0 : Option Nat} {pending_store_a0 : Option Nat} {segments_store_a0 : Option Nat} {live_store_a0 : Option Nat} {pendingCount_store_a0 : Int32} {pendingEntries_store_a0 : Int32} {segmentCount_store_a0 : Int32} {versionsMade_store_a0 : Int32} {segmentsMade_store_a0 : Int32} {liveCount_store_a0 : Int32} (e_a0 : h a0 = some (.inr (0, [va_rf draft_a0, va_rf texts_a0, va_rf weights_a0, .ref store_a0, va_rf saved_a0, va_rf question_a0, va_rf standing_a0, va_rf answers_a0, .int draftLength_a0, .int most_a0, .int limit_a0, .int open_a0, .int wrongPlace_a0, .int goodPhrases_a0]))) (e_store_a0 : h store_a0 = some (.inr (8, [va_rf rows_store_a0, va_rf pending_store_a0, va_rf segments_store_a0, va_rf live_store_a0, .int pendingCount_store_a0, .int pendingEntries_store_a0, .int segmentCount_store_a0, .int versionsMade_store_a0, .int segmentsMade_store_a0, .int liveCount_store_a0]))) (kr : pr (some (.int segmentCount_store_a0)) h) : xw G m_Shelf_count F L bc bs pr px 60 [some (.ref a0), none] [] h := by
  refine x_aload_n d_Shelf_count_60 rfl rfl ?_
  refine x_get d_Shelf_count_61 f_Shelf_26 e_a0 rfl ?_
  refine x_get d_Shelf_count_64 f_Shelf_150 e_store_a0 rfl ?_
  exact x_iret d_Shelf_count_67 rfl kr
theorem s_Shelf_count_68 {G : xw_G} {F L bc bs : Nat} {pr : Option Value → xw_A → Prop} {px : String → xw_A → Prop} {h : xw_A} {a0 : Nat} {draft_a0 : Option Nat} {texts_a0 : Option Nat} {weights_a0 : Option Nat} {store_a0 : Nat} {saved_a0 : Option Nat} {question_a0 : Option Nat} {standing_a0 : Option Nat} {answers_a0 : Option Nat} {draftLength_a0 : Int32} {most_a0 : Int32} {limit_a0 : Int32} {open_a0 : Int32} {wrongPlace_a0 : Int32} {goodPhrases_a0 : Int32} {rows_store_a0 : Option Nat} {pending_store_a0 : Option Nat} {segments_store_a0 : Option Nat} {live_store_a0 : Option Nat} {pendingCount_store_a0 : Int32} {pendingEntries_store_a0 : Int32} {segmentCount_store_a0 : Int32} {versionsMade_store_a0 : Int32} {segmentsMade_store_a0 : Int32} {liveCount_store_a0 : Int32} (e_a0 : h a0 = some (.inr (0, [va_rf draft_a0, va_rf texts_a0, va_rf weights_a0, .ref store_a0, va_rf saved_a0, va_rf question_a0, va_rf standing_a0, va_rf answers_a0, .int draftLength_a0, .int most_a0, .int limit_a0, .int open_a0, .int wrongPlace_a0, .int goodPhrases_a0]))) (e_store_a0 : h store_a0 = some (.inr (8, [va_rf rows_store_a0, va_rf pending_store_a0, va_rf segments_store_a0, va_rf live_store_a0, .int pendingCount_store_a0, .int pendingEntries_store_a0, .int segmentCount_store_a0, .int versionsMade_store_a0, .int segmentsMade_store_a0, .int liveCount_store_a0]))) (kr : pr (some (.int pendingEntries_store_a0)) h) : xw G m_Shelf_count F L bc bs pr px 68 [some (.ref a0), none] [] h := by
  refine x_aload_n d_Shelf_count_68 rfl rfl ?_
  refine x_get d_Shelf_count_69 f_Shelf_26 e_a0 rfl ?_
  refine x_get d_Shelf_count_72 f_Shelf_241 e_store_a0 rfl ?_
  exact x_iret d_Shelf_count_75 rfl kr
theorem s_Shelf_count_76 {G : xw_G} {F L bc bs : Nat} {pr : Option Value → xw_A → Prop} {px : String → xw_A → Prop} {h : xw_A} {a0 : Nat} {draft_a0 : Option Nat} {texts_a0 : Option Nat} {weights_a0 : Option Nat} {store_a0 : Nat} {saved_a0 : Option Nat} {question_a0 : Option Nat} {standing_a0 : Option Nat} {answers_a0 : Option Nat} {draftLength_a0 : Int32} {most_a0 : Int32} {limit_a0 : Int32} {open_a0 : Int32} {wrongPlace_a0 : Int32} {goodPhrases_a0 : Int32} {rows_store_a0 : Option Nat} {pending_store_a0 : Option Nat} {segments_store_a0 : Option Nat} {live_store_a0 : Option Nat} {pendingCount_store_a0 : Int32} {pendingEntries_store_a0 : Int32} {segmentCount_store_a0 : Int32} {versionsMade_store_a0 : Int32} {segmentsMade_store_a0 : Int32} {liveCount_store_a0 : Int32} (e_a0 : h a0 = some (.inr (0, [va_rf draft_a0, va_rf texts_a0, va_rf weights_a0, .ref store_a0, va_rf saved_a0, va_rf question_a0, va_rf standing_a0, va_rf answers_a0, .int draftLength_a0, .int most_a0, .int limit_a0, .int open_a0, .int wrongPlace_a0, .int goodPhrases_a0]))) (e_store_a0 : h store_a0 = some (.inr (8, [va_rf rows_store_a0, va_rf pending_store_a0, va_rf segments_store_a0, va_rf live_store_a0, .int pendingCount_store_a0, .int pendingEntries_store_a0, .int segmentCount_store_a0, .int versionsMade_store_a0, .int segmentsMade_store_a0, .int liveCount_store_a0]))) (kr : pr (some (.int versionsMade_store_a0)) h) : xw G m_Shelf_count F L bc bs pr px 76 [some (.ref a0), none] [] h := by
  refine x_aload_n d_Shelf_count_76 rfl rfl ?_
  refine x_get d_Shelf_count_77 f_Shelf_26 e_a0 rfl ?_
  refine x_get d_Shelf_count_80 f_Shelf_244 e_store_a0 rfl ?_
  exact x_iret d_Shelf_count_83 rfl kr
theorem s_Shelf_count_84 {G : xw_G} {F L bc bs : Nat} {pr : Option Value → xw_A → Prop} {px : String → xw_A → Prop} {h : xw_A} {a0 : Nat} {draft_a0 : Option Nat} {texts_a0 : Option Nat} {weights_a0 : Option Nat} {store_a0 : Nat} {saved_a0 : Option Nat} {question_a0 : Option Nat} {standing_a0 : Option Nat} {answers_a0 : Option Nat} {draftLength_a0 : Int32} {most_a0 : Int32} {limit_a0 : Int32} {open_a0 : Int32} {wrongPlace_a0 : Int32} {goodPhrases_a0 : Int32} {rows_store_a0 : Option Nat} {pending_store_a0 : Option Nat} {segments_store_a0 : Option Nat} {live_store_a0 : Option Nat} {pendingCount_store_a0 : Int32} {pendingEntries_store_a0 : Int32} {segmentCount_store_a0 : Int32} {versionsMade_store_a0 : Int32} {segmentsMade_store_a0 : Int32} {liveCount_store_a0 : Int32} (e_a0 : h a0 = some (.inr (0, [va_rf draft_a0, va_rf texts_a0, va_rf weights_a0, .ref store_a0, va_rf saved_a0, va_rf question_a0, va_rf standing_a0, va_rf answers_a0, .int draftLength_a0, .int most_a0, .int limit_a0, .int open_a0, .int wrongPlace_a0, .int goodPhrases_a0]))) (e_store_a0 : h store_a0 = some (.inr (8, [va_rf rows_store_a0, va_rf pending_store_a0, va_rf segments_store_a0, va_rf live_store_a0, .int pendingCount_store_a0, .int pendingEntries_store_a0, .int segmentCount_store_a0, .int versionsMade_store_a0, .int segmentsMade_store_a0, .int liveCount_store_a0]))) (kr : pr (some (.int segmentsMade_store_a0)) h) : xw G m_Shelf_count F L bc bs pr px 84 [some (.ref a0), none] [] h := by
  refine x_aload_n d_Shelf_count_84 rfl rfl ?_
  refine x_get d_Shelf_count_85 f_Shelf_26 e_a0 rfl ?_
  refine x_get d_Shelf_count_88 f_Shelf_247 e_store_a0 rfl ?_
  exact x_iret d_Shelf_count_91 rfl kr
theorem s_Shelf_count_92 {G : xw_G} {F L bc bs : Nat} {pr : Option Value → xw_A → Prop} {px : String → xw_A → Prop} {h : xw_A} {a0 : Nat} {draft_a0 : Option Nat} {texts_a0 : Option Nat} {weights_a0 : Option Nat} {store_a0 : Option Nat} {saved_a0 : Option Nat} {question_a0 : Option Nat} {standing_a0 : Option Nat} {answers_a0 : Nat} {draftLength_a0 : Int32} {most_a0 : Int32} {limit_a0 : Int32} {open_a0 : Int32} {wrongPlace_a0 : Int32} {goodPhrases_a0 : Int32} {rows_answers_a0 : Option Nat} {scores_answers_a0 : Option Nat} {size_answers_a0 : Int32} {lengths_answers_a0 : Option Nat} {order_answers_a0 : Option Nat} (e_a0 : h a0 = some (.inr (0, [va_rf draft_a0, va_rf texts_a0, va_rf weights_a0, va_rf store_a0, va_rf saved_a0, va_rf question_a0, va_rf standing_a0, .ref answers_a0, .int draftLength_a0, .int most_a0, .int limit_a0, .int open_a0, .int wrongPlace_a0, .int goodPhrases_a0]))) (e_answers_a0 : h answers_a0 = some (.inr (1, [va_rf rows_answers_a0, va_rf scores_answers_a0, .int size_answers_a0, va_rf lengths_answers_a0, va_rf order_answers_a0]))) (kr : pr (some (.int size_answers_a0)) h) : xw G m_Shelf_count F L bc bs pr px 92 [some (.ref a0), none] [] h := by
  refine x_aload_n d_Shelf_count_92 rfl rfl ?_
  refine x_get d_Shelf_count_93 f_Shelf_50 e_a0 rfl ?_
  refine x_get d_Shelf_count_96 f_Shelf_192 e_answers_a0 rfl ?_
  exact x_iret d_Shelf_count_99 rfl kr
theorem s_Shelf_count_100 {G : xw_G} {F L bc bs : Nat} {pr : Option Value → xw_A → Prop} {px : String → xw_A → Prop} {h : xw_A} {a0 : Nat} {draft_a0 : Option Nat} {texts_a0 : Option Nat} {weights_a0 : Option Nat} {store_a0 : Option Nat} {saved_a0 : Option Nat} {question_a0 : Option Nat} {standing_a0 : Option Nat} {answers_a0 : Option Nat} {draftLength_a0 : Int32} {most_a0 : Int32} {limit_a0 : Int32} {open_a0 : Int32} {wrongPlace_a0 : Int32} {goodPhrases_a0 : Int32} (e_a0 : h a0 = some (.inr (0, [va_rf draft_a0, va_rf texts_a0, va_rf weights_a0, va_rf store_a0, va_rf saved_a0, va_rf question_a0, va_rf standing_a0, va_rf answers_a0, .int draftLength_a0, .int most_a0, .int limit_a0, .int open_a0, .int wrongPlace_a0, .int goodPhrases_a0]))) (kr : pr (some (.int goodPhrases_a0)) h) : xw G m_Shelf_count F L bc bs pr px 100 [some (.ref a0), none] [] h := by
  refine x_aload_n d_Shelf_count_100 rfl rfl ?_
  refine x_get d_Shelf_count_101 f_Shelf_173 e_a0 rfl ?_
  exact x_iret d_Shelf_count_104 rfl kr
theorem s_Shelf_count_105 {G : xw_G} {F L bc bs : Nat} {pr : Option Value → xw_A → Prop} {px : String → xw_A → Prop} {h : xw_A} {a0 : Nat} {draft_a0 : Option Nat} {texts_a0 : Option Nat} {weights_a0 : Option Nat} {store_a0 : Option Nat} {saved_a0 : Option Nat} {question_a0 : Option Nat} {standing_a0 : Option Nat} {answers_a0 : Option Nat} {draftLength_a0 : Int32} {most_a0 : Int32} {limit_a0 : Int32} {open_a0 : Int32} {wrongPlace_a0 : Int32} {goodPhrases_a0 : Int32} (e_a0 : h a0 = some (.inr (0, [va_rf draft_a0, va_rf texts_a0, va_rf weights_a0, va_rf store_a0, va_rf saved_a0, va_rf question_a0, va_rf standing_a0, va_rf answers_a0, .int draftLength_a0, .int most_a0, .int limit_a0, .int open_a0, .int wrongPlace_a0, .int goodPhrases_a0]))) (kt : open_a0 = 0 → xw G m_Shelf_count F L bc bs pr px 116 [none, none] [] h) (kf : ¬ open_a0 = 0 → xw G m_Shelf_count F L bc bs pr px 112 [none, none] [] h) : xw G m_Shelf_count F L bc bs pr px 105 [some (.ref a0), none] [] h := by
  refine x_aload_n d_Shelf_count_105 rfl rfl ?_
  refine x_get d_Shelf_count_106 f_Shelf_132 e_a0 rfl ?_
  refine x_if_eq (tgt := 116) d_Shelf_count_109 (by decide) (fun hc => ?_) (fun hc => ?_)
  · exact x_le (lv' := [none, none]) (xw_le_n (xw_le_n xw_le_e)) (kt hc)
  · exact x_le (lv' := [none, none]) (xw_le_n (xw_le_n xw_le_e)) (kf hc)
theorem s_Shelf_count_112 {G : xw_G} {F L bc bs : Nat} {pr : Option Value → xw_A → Prop} {px : String → xw_A → Prop} {h : xw_A}   (k : xw G m_Shelf_count F L bc bs pr px 117 [none, none] [.int 1] h) : xw G m_Shelf_count F L bc bs pr px 112 [none, none] [] h := by
  refine x_iconst (v := 1) d_Shelf_count_112 (by decide) ?_
  refine x_goto (tgt := 117) d_Shelf_count_113 (by decide) ?_
  exact k
theorem s_Shelf_count_116 {G : xw_G} {F L bc bs : Nat} {pr : Option Value → xw_A → Prop} {px : String → xw_A → Prop} {h : xw_A}   (k : xw G m_Shelf_count F L bc bs pr px 117 [none, none] [.int 0] h) : xw G m_Shelf_count F L bc bs pr px 116 [none, none] [] h := by
  refine x_iconst (v := 0) d_Shelf_count_116 (by decide) ?_
  exact k
theorem s_Shelf_count_117 {G : xw_G} {F L bc bs : Nat} {pr : Option Value → xw_A → Prop} {px : String → xw_A → Prop} {h : xw_A} {y0 : Int32}  (kr : pr (some (.int y0)) h) : xw G m_Shelf_count F L bc bs pr px 117 [none, none] [.int y0] h := by
  exact x_iret d_Shelf_count_117 rfl kr
theorem s_Shelf_count_118 {G : xw_G} {F L bc bs : Nat} {pr : Option Value → xw_A → Prop} {px : String → xw_A → Prop} {h : xw_A} {a0 : Nat} {draft_a0 : Option Nat} {texts_a0 : Option Nat} {weights_a0 : Option Nat} {store_a0 : Option Nat} {saved_a0 : Option Nat} {question_a0 : Option Nat} {standing_a0 : Option Nat} {answers_a0 : Option Nat} {draftLength_a0 : Int32} {most_a0 : Int32} {limit_a0 : Int32} {open_a0 : Int32} {wrongPlace_a0 : Int32} {goodPhrases_a0 : Int32} (e_a0 : h a0 = some (.inr (0, [va_rf draft_a0, va_rf texts_a0, va_rf weights_a0, va_rf store_a0, va_rf saved_a0, va_rf question_a0, va_rf standing_a0, va_rf answers_a0, .int draftLength_a0, .int most_a0, .int limit_a0, .int open_a0, .int wrongPlace_a0, .int goodPhrases_a0]))) (kr : pr (some (.int draftLength_a0)) h) : xw G m_Shelf_count F L bc bs pr px 118 [some (.ref a0), none] [] h := by
  refine x_aload_n d_Shelf_count_118 rfl rfl ?_
  refine x_get d_Shelf_count_119 f_Shelf_78 e_a0 rfl ?_
  exact x_iret d_Shelf_count_122 rfl kr
