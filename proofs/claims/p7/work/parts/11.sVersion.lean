/-! blocks of Version: by program -/
theorem s_Version_init_0 {G : xw_G} {F L bc bs : Nat} {pr : Option Value → xw_A → Prop} {px : String → xw_A → Prop} {h : xw_A} {a0 : Nat} {x1 : Int32} {x2 : Int32} {a3 : Nat} {a4 : Nat} {x5 : Int32} {number_a0 : Int32} {row_a0 : Int32} {first_a0 : Option Nat} {second_a0 : Option Nat} {entries_a0 : Int32} (r_1 : 1 ≤ F ∧ 0 + 12 ≤ L) (e_a0 : h a0 = some (.inr (10, [.int number_a0, .int row_a0, va_rf first_a0, va_rf second_a0, .int entries_a0]))) (k : xw G m_Version_init F L bc bs pr px 25 [some (.ref a0), none, none, none, none, some (.int x5)] [] (xw_up (xw_up (xw_up (xw_up h a0 (.inr (10, [.int x1, .int row_a0, va_rf first_a0, va_rf second_a0, .int entries_a0]))) a0 (.inr (10, [.int x1, .int x2, va_rf first_a0, va_rf second_a0, .int entries_a0]))) a0 (.inr (10, [.int x1, .int x2, .ref a3, va_rf second_a0, .int entries_a0]))) a0 (.inr (10, [.int x1, .int x2, .ref a3, .ref a4, .int entries_a0])))) : xw G m_Version_init F L bc bs pr px 0 [some (.ref a0), some (.int x1), some (.int x2), some (.ref a3), some (.ref a4), some (.int x5)] [] h := by
  refine x_aload_n d_Version_init_0 rfl rfl ?_
  refine x_objInit d_Version_init_1 oi_Version r_1.1 (by simpa [Value.category] using r_1.2) ?_
  refine x_aload_n d_Version_init_4 rfl rfl ?_
  refine x_iload_n d_Version_init_5 rfl rfl ?_
  refine x_putF (ty := .int) d_Version_init_6 f_Version_7 fw_Version_0.1 rfl rfl fw_Version_0.2 rfl rfl (Nat.le_of_ble_eq_true rfl) e_a0 ?_
  show xw G m_Version_init F L bc bs pr px 9 [some (.ref a0), some (.int x1), some (.int x2), some (.ref a3), some (.ref a4), some (.int x5)] [] (xw_up h a0 (.inr (10, [.int x1, .int row_a0, va_rf first_a0, va_rf second_a0, .int entries_a0])))
  refine x_aload_n d_Version_init_9 rfl rfl ?_
  refine x_iload_n d_Version_init_10 rfl rfl ?_
  refine x_putF (ty := .int) d_Version_init_11 f_Version_13 fw_Version_1.1 rfl rfl fw_Version_1.2 rfl rfl (Nat.le_of_ble_eq_true rfl) (xw_up_s _ _ _) ?_
  show xw G m_Version_init F L bc bs pr px 14 [some (.ref a0), some (.int x1), some (.int x2), some (.ref a3), some (.ref a4), some (.int x5)] [] (xw_up (xw_up h a0 (.inr (10, [.int x1, .int row_a0, va_rf first_a0, va_rf second_a0, .int entries_a0]))) a0 (.inr (10, [.int x1, .int x2, va_rf first_a0, va_rf second_a0, .int entries_a0])))
  refine x_aload_n d_Version_init_14 rfl rfl ?_
  refine x_aload_n d_Version_init_15 rfl rfl ?_
  refine x_putF (ty := (.object "PhraseShelf$Tokens")) d_Version_init_16 f_Version_16 fw_Version_2.1 rfl rfl fw_Version_2.2 rfl rfl (Nat.le_of_ble_eq_true rfl) (xw_up_s _ _ _) ?_
  show xw G m_Version_init F L bc bs pr px 19 [some (.ref a0), some (.int x1), some (.int x2), some (.ref a3), some (.ref a4), some (.int x5)] [] (xw_up (xw_up (xw_up h a0 (.inr (10, [.int x1, .int row_a0, va_rf first_a0, va_rf second_a0, .int entries_a0]))) a0 (.inr (10, [.int x1, .int x2, va_rf first_a0, va_rf second_a0, .int entries_a0]))) a0 (.inr (10, [.int x1, .int x2, .ref a3, va_rf second_a0, .int entries_a0])))
  refine x_aload_n d_Version_init_19 rfl rfl ?_
  refine x_aload d_Version_init_20 rfl ?_
  refine x_putF (ty := (.object "PhraseShelf$Tokens")) d_Version_init_22 f_Version_20 fw_Version_3.1 rfl rfl fw_Version_3.2 rfl rfl (Nat.le_of_ble_eq_true rfl) (xw_up_s _ _ _) ?_
  show xw G m_Version_init F L bc bs pr px 25 [some (.ref a0), some (.int x1), some (.int x2), some (.ref a3), some (.ref a4), some (.int x5)] [] (xw_up (xw_up (xw_up (xw_up h a0 (.inr (10, [.int x1, .int row_a0, va_rf first_a0, va_rf second_a0, .int entries_a0]))) a0 (.inr (10, [.int x1, .int x2, va_rf first_a0, va_rf second_a0, .int entries_a0]))) a0 (.inr (10, [.int x1, .int x2, .ref a3, va_rf second_a0, .int entries_a0]))) a0 (.inr (10, [.int x1, .int x2, .ref a3, .ref a4, .int entries_a0])))
  exact x_le (lv' := [some (.ref a0), none, none, none, none, some (.int x5)]) (xw_le_s (xw_le_n (xw_le_n (xw_le_n (xw_le_n (xw_le_s xw_le_e)))))) (k)
theorem s_Version_init_25 {G : xw_G} {F L bc bs : Nat} {pr : Option Value → xw_A → Prop} {px : String → xw_A → Prop} {h : xw_A} {a0 : Nat} {x5 : Int32} {number_a0 : Int32} {row_a0 : Int32} {first_a0 : Option Nat} {second_a0 : Option Nat} {entries_a0 : Int32} (e_a0 : h a0 = some (.inr (10, [.int number_a0, .int row_a0, va_rf first_a0, va_rf second_a0, .int entries_a0]))) (kr : pr none (xw_up h a0 (.inr (10, [.int number_a0, .int row_a0, va_rf first_a0, va_rf second_a0, .int x5])))) : xw G m_Version_init F L bc bs pr px 25 [some (.ref a0), none, none, none, none, some (.int x5)] [] h := by
  refine x_aload_n d_Version_init_25 rfl rfl ?_
  refine x_iload d_Version_init_26 rfl ?_
  refine x_putF (ty := .int) d_Version_init_28 f_Version_23 fw_Version_4.1 rfl rfl fw_Version_4.2 rfl rfl (Nat.le_of_ble_eq_true rfl) e_a0 ?_
  show xw G m_Version_init F L bc bs pr px 31 [some (.ref a0), none, none, none, none, some (.int x5)] [] (xw_up h a0 (.inr (10, [.int number_a0, .int row_a0, va_rf first_a0, va_rf second_a0, .int x5])))
  exact x_vret d_Version_init_31 rfl kr
theorem s_Version_tokens_0 {G : xw_G} {F L bc bs : Nat} {pr : Option Value → xw_A → Prop} {px : String → xw_A → Prop} {h : xw_A} {a0 : Nat} {number_a0 : Int32} {row_a0 : Int32} {first_a0 : Nat} {second_a0 : Nat} {entries_a0 : Int32} {letters_first_a0 : Option Nat} {starts_first_a0 : Option Nat} {count_first_a0 : Int32} {letters_second_a0 : Option Nat} {starts_second_a0 : Option Nat} {count_second_a0 : Int32} (e_a0 : h a0 = some (.inr (10, [.int number_a0, .int row_a0, .ref first_a0, .ref second_a0, .int entries_a0]))) (e_first_a0 : h first_a0 = some (.inr (9, [va_rf letters_first_a0, va_rf starts_first_a0, .int count_first_a0]))) (e_second_a0 : h second_a0 = some (.inr (9, [va_rf letters_second_a0, va_rf starts_second_a0, .int count_second_a0]))) (kr : pr (some (.int (count_first_a0 + count_second_a0))) h) : xw G m_Version_tokens F L bc bs pr px 0 [some (.ref a0)] [] h := by
  refine x_aload_n d_Version_tokens_0 rfl rfl ?_
  refine x_get d_Version_tokens_1 f_Version_16 e_a0 rfl ?_
  refine x_get d_Version_tokens_4 f_Version_26 e_first_a0 rfl ?_
  refine x_aload_n d_Version_tokens_7 rfl rfl ?_
  refine x_get d_Version_tokens_8 f_Version_20 e_a0 rfl ?_
  refine x_get d_Version_tokens_11 f_Version_26 e_second_a0 rfl ?_
  refine x_iadd d_Version_tokens_14 ?_
  exact x_iret d_Version_tokens_15 rfl kr
theorem s_Version_text_0 {G : xw_G} {F L bc bs : Nat} {pr : Option Value → xw_A → Prop} {px : String → xw_A → Prop} {h : xw_A} {a0 : Nat} {x1 : Int32}  (kt : ¬ x1 = 0 → xw G m_Version_text F L bc bs pr px 11 [some (.ref a0), none] [] h) (kf : x1 = 0 → xw G m_Version_text F L bc bs pr px 4 [some (.ref a0), none] [] h) : xw G m_Version_text F L bc bs pr px 0 [some (.ref a0), some (.int x1)] [] h := by
  refine x_iload_n d_Version_text_0 rfl rfl ?_
  refine x_if_ne (tgt := 11) d_Version_text_1 (by decide) (fun hc => ?_) (fun hc => ?_)
  · exact x_le (lv' := [some (.ref a0), none]) (xw_le_s (xw_le_n xw_le_e)) (kt hc)
  · exact x_le (lv' := [some (.ref a0), none]) (xw_le_s (xw_le_n xw_le_e)) (kf hc)
theorem s_Version_text_4 {G : xw_G} {F L bc bs : Nat} {pr : Option Value → xw_A → Prop} {px : String → xw_A → Prop} {h : xw_A} {a0 : Nat} {number_a0 : Int32} {row_a0 : Int32} {first_a0 : Option Nat} {second_a0 : Option Nat} {entries_a0 : Int32} (e_a0 : h a0 = some (.inr (10, [.int number_a0, .int row_a0, va_rf first_a0, va_rf second_a0, .int entries_a0]))) (k : xw G m_Version_text F L bc bs pr px 15 [none, none] [va_rf first_a0] h) : xw G m_Version_text F L bc bs pr px 4 [some (.ref a0), none] [] h := by
  refine x_aload_n d_Version_text_4 rfl rfl ?_
  refine x_get d_Version_text_5 f_Version_16 e_a0 rfl ?_
  refine x_goto (tgt := 15) d_Version_text_8 (by decide) ?_
  exact x_le (lv' := [none, none]) (xw_le_n (xw_le_n xw_le_e)) (k)
theorem s_Version_text_11 {G : xw_G} {F L bc bs : Nat} {pr : Option Value → xw_A → Prop} {px : String → xw_A → Prop} {h : xw_A} {a0 : Nat} {number_a0 : Int32} {row_a0 : Int32} {first_a0 : Option Nat} {second_a0 : Option Nat} {entries_a0 : Int32} (e_a0 : h a0 = some (.inr (10, [.int number_a0, .int row_a0, va_rf first_a0, va_rf second_a0, .int entries_a0]))) (k : xw G m_Version_text F L bc bs pr px 15 [none, none] [va_rf second_a0] h) : xw G m_Version_text F L bc bs pr px 11 [some (.ref a0), none] [] h := by
  refine x_aload_n d_Version_text_11 rfl rfl ?_
  refine x_get d_Version_text_12 f_Version_20 e_a0 rfl ?_
  exact x_le (lv' := [none, none]) (xw_le_n (xw_le_n xw_le_e)) (k)
theorem s_Version_text_15 {G : xw_G} {F L bc bs : Nat} {pr : Option Value → xw_A → Prop} {px : String → xw_A → Prop} {h : xw_A} {s0 : Option Nat}  (kr : pr (some (va_rf s0)) h) : xw G m_Version_text F L bc bs pr px 15 [none, none] [va_rf s0] h := by
  exact x_aret d_Version_text_15 rfl (Or.inl ⟨_, rfl⟩) (va_rf_or _) kr
