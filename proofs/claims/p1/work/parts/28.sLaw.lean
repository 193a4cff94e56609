/-! blocks of Law: by program -/
theorem s_Law_letters_0 {G : xw_G} {F L bc bs : Nat} {pr : Option Value → xw_A → Prop} {px : String → xw_A → Prop} {h : xw_A} {a0 : Nat} {x1 : Int64} {a3 : Nat}  (k : xw G m_Law_letters F L bc bs pr px 4 [some (.ref a0), some (.long x1), none, some (.ref a3), none] [.long x1, .ref a0, .int 0, .ref a3] h) : xw G m_Law_letters F L bc bs pr px 0 [some (.ref a0), some (.long x1), none, some (.ref a3), none] [] h := by
  refine x_aload_n d_Law_letters_0 rfl rfl ?_
  refine x_iconst (v := 0) d_Law_letters_1 (by decide) ?_
  refine x_aload_n d_Law_letters_2 rfl rfl ?_
  refine x_lload_n d_Law_letters_3 rfl rfl ?_
  exact k
theorem s_Law_letters_7 {G : xw_G} {F L bc bs : Nat} {pr : Option Value → xw_A → Prop} {px : String → xw_A → Prop} {h : xw_A} {y0 : Int32} {y1 : Int32} {b2 : Nat} {n_b2 : Nat} {f_b2 : Nat → Int64} (e_b2 : h b2 = some (.inl (2, n_b2, .inr (.inl f_b2)))) (i_8 : vp_in y1 n_b2) (k : xw G m_Law_letters F L bc bs pr px 20 [none, none, none, none, none] [] (xw_up h b2 (.inl (2, n_b2, .inr (.inl (vp_updL f_b2 (y1).toNatClampNeg y0.toInt64)))))) : xw G m_Law_letters F L bc bs pr px 7 [none, none, none, none, none] [.int y0, .int y1, .ref b2] h := by
  refine x_i2l d_Law_letters_7 rfl ?_
  refine x_last d_Law_letters_8 e_b2 i_8 ?_
  refine x_goto (tgt := 20) d_Law_letters_9 (by decide) ?_
  exact k
theorem s_Law_letters_12 {G : xw_G} {F L bc bs : Nat} {pr : Option Value → xw_A → Prop} {px : String → xw_A → Prop} {h : xw_A} {b0 : Nat}  (kr : pr (some (.int 1)) h) : xw G m_Law_letters F L bc bs pr px 12 [none, none, none, none, none] [.ref b0] h := by
  refine x_astore d_Law_letters_12 (by decide) trivial ?_
  show xw G m_Law_letters F L bc bs pr px 14 [none, none, none, none, some (.ref b0)] [] h
  refine x_iconst (v := 1) d_Law_letters_14 (by decide) ?_
  exact x_iret d_Law_letters_15 rfl kr
theorem s_Law_letters_16 {G : xw_G} {F L bc bs : Nat} {pr : Option Value → xw_A → Prop} {px : String → xw_A → Prop} {h : xw_A} {b0 : Nat}  (kr : pr (some (.int 2)) h) : xw G m_Law_letters F L bc bs pr px 16 [none, none, none, none, none] [.ref b0] h := by
  refine x_astore d_Law_letters_16 (by decide) trivial ?_
  show xw G m_Law_letters F L bc bs pr px 18 [none, none, none, none, some (.ref b0)] [] h
  refine x_iconst (v := 2) d_Law_letters_18 (by decide) ?_
  exact x_iret d_Law_letters_19 rfl kr
theorem s_Law_letters_20 {G : xw_G} {F L bc bs : Nat} {pr : Option Value → xw_A → Prop} {px : String → xw_A → Prop} {h : xw_A}   (kr : pr (some (.int 0)) h) : xw G m_Law_letters F L bc bs pr px 20 [none, none, none, none, none] [] h := by
  refine x_iconst (v := 0) d_Law_letters_20 (by decide) ?_
  exact x_iret d_Law_letters_21 rfl kr
theorem s_Law_set_0 {G : xw_G} {F L bc bs : Nat} {pr : Option Value → xw_A → Prop} {px : String → xw_A → Prop} {h : xw_A} {a0 : Nat} {x1 : Int32} {a2 : Nat}  (k : xw G m_Law_set F L bc bs pr px 4 [some (.ref a0), some (.int x1), some (.ref a2), none] [.int x1, .ref a0, .int 0, .ref a2] h) : xw G m_Law_set F L bc bs pr px 0 [some (.ref a0), some (.int x1), some (.ref a2), none] [] h := by
  refine x_aload_n d_Law_set_0 rfl rfl ?_
  refine x_iconst (v := 0) d_Law_set_1 (by decide) ?_
  refine x_aload_n d_Law_set_2 rfl rfl ?_
  refine x_iload_n d_Law_set_3 rfl rfl ?_
  exact k
theorem s_Law_set_7 {G : xw_G} {F L bc bs : Nat} {pr : Option Value → xw_A → Prop} {px : String → xw_A → Prop} {h : xw_A} {y0 : Int32} {y1 : Int32} {b2 : Nat} {n_b2 : Nat} {f_b2 : Nat → Int64} (e_b2 : h b2 = some (.inl (2, n_b2, .inr (.inl f_b2)))) (i_8 : vp_in y1 n_b2) (k : xw G m_Law_set F L bc bs pr px 18 [none, none, none, none] [] (xw_up h b2 (.inl (2, n_b2, .inr (.inl (vp_updL f_b2 (y1).toNatClampNeg y0.toInt64)))))) : xw G m_Law_set F L bc bs pr px 7 [none, none, none, none] [.int y0, .int y1, .ref b2] h := by
  refine x_i2l d_Law_set_7 rfl ?_
  refine x_last d_Law_set_8 e_b2 i_8 ?_
  refine x_goto (tgt := 18) d_Law_set_9 (by decide) ?_
  exact k
theorem s_Law_set_12 {G : xw_G} {F L bc bs : Nat} {pr : Option Value → xw_A → Prop} {px : String → xw_A → Prop} {h : xw_A} {b0 : Nat}  (kr : pr (some (.int 1)) h) : xw G m_Law_set F L bc bs pr px 12 [none, none, none, none] [.ref b0] h := by
  refine x_astore_n d_Law_set_12 rfl (by decide) trivial ?_
  show xw G m_Law_set F L bc bs pr px 13 [none, none, none, some (.ref b0)] [] h
  refine x_iconst (v := 1) d_Law_set_13 (by decide) ?_
  exact x_iret d_Law_set_14 rfl kr
theorem s_Law_set_15 {G : xw_G} {F L bc bs : Nat} {pr : Option Value → xw_A → Prop} {px : String → xw_A → Prop} {h : xw_A} {b0 : Nat}  (kr : pr (some (.int 2)) h) : xw G m_Law_set F L bc bs pr px 15 [none, none, none, none] [.ref b0] h := by
  refine x_astore_n d_Law_set_15 rfl (by decide) trivial ?_
  show xw G m_Law_set F L bc bs pr px 16 [none, none, none, some (.ref b0)] [] h
  refine x_iconst (v := 2) d_Law_set_16 (by decide) ?_
  exact x_iret d_Law_set_17 rfl kr
theorem s_Law_set_18 {G : xw_G} {F L bc bs : Nat} {pr : Option Value → xw_A → Prop} {px : String → xw_A → Prop} {h : xw_A}   (kr : pr (some (.int 0)) h) : xw G m_Law_set F L bc bs pr px 18 [none, none, none, none] [] h := by
  refine x_iconst (v := 0) d_Law_set_18 (by decide) ?_
  exact x_iret d_Law_set_19 rfl kr
theorem s_Law_insert_0 {G : xw_G} {F L bc bs : Nat} {pr : Option Value → xw_A → Prop} {px : String → xw_A → Prop} {h : xw_A} {a0 : Nat} {a1 : Nat}  (k : xw G m_Law_insert F L bc bs pr px 3 [some (.ref a0), some (.ref a1), none] [.ref a0, .int 0, .ref a1] h) : xw G m_Law_insert F L bc bs pr px 0 [some (.ref a0), some (.ref a1), none] [] h := by
  refine x_aload_n d_Law_insert_0 rfl rfl ?_
  refine x_iconst (v := 0) d_Law_insert_1 (by decide) ?_
  refine x_aload_n d_Law_insert_2 rfl rfl ?_
  exact k
theorem s_Law_insert_6 {G : xw_G} {F L bc bs : Nat} {pr : Option Value → xw_A → Prop} {px : String → xw_A → Prop} {h : xw_A} {y0 : Int32} {y1 : Int32} {b2 : Nat} {n_b2 : Nat} {f_b2 : Nat → Int64} (e_b2 : h b2 = some (.inl (2, n_b2, .inr (.inl f_b2)))) (i_7 : vp_in y1 n_b2) (k : xw G m_Law_insert F L bc bs pr px 14 [none, none, none] [] (xw_up h b2 (.inl (2, n_b2, .inr (.inl (vp_updL f_b2 (y1).toNatClampNeg y0.toInt64)))))) : xw G m_Law_insert F L bc bs pr px 6 [none, none, none] [.int y0, .int y1, .ref b2] h := by
  refine x_i2l d_Law_insert_6 rfl ?_
  refine x_last d_Law_insert_7 e_b2 i_7 ?_
  refine x_goto (tgt := 14) d_Law_insert_8 (by decide) ?_
  exact k
theorem s_Law_insert_11 {G : xw_G} {F L bc bs : Nat} {pr : Option Value → xw_A → Prop} {px : String → xw_A → Prop} {h : xw_A} {b0 : Nat}  (kr : pr (some (.int 1)) h) : xw G m_Law_insert F L bc bs pr px 11 [none, none, none] [.ref b0] h := by
  refine x_astore_n d_Law_insert_11 rfl (by decide) trivial ?_
  show xw G m_Law_insert F L bc bs pr px 12 [none, none, some (.ref b0)] [] h
  refine x_iconst (v := 1) d_Law_insert_12 (by decide) ?_
  exact x_iret d_Law_insert_13 rfl kr
theorem s_Law_insert_14 {G : xw_G} {F L bc bs : Nat} {pr : Option Value → xw_A → Prop} {px : String → xw_A → Prop} {h : xw_A}   (kr : pr (some (.int 0)) h) : xw G m_Law_insert F L bc bs pr px 14 [none, none, none] [] h := by
  refine x_iconst (v := 0) d_Law_insert_14 (by decide) ?_
  exact x_iret d_Law_insert_15 rfl kr
theorem s_Law_replace_0 {G : xw_G} {F L bc bs : Nat} {pr : Option Value → xw_A → Prop} {px : String → xw_A → Prop} {h : xw_A} {a0 : Nat} {x1 : Int32} {a2 : Nat}  (k : xw G m_Law_replace F L bc bs pr px 4 [some (.ref a0), some (.int x1), some (.ref a2), none] [.int x1, .ref a0, .int 0, .ref a2] h) : xw G m_Law_replace F L bc bs pr px 0 [some (.ref a0), some (.int x1), some (.ref a2), none] [] h := by
  refine x_aload_n d_Law_replace_0 rfl rfl ?_
  refine x_iconst (v := 0) d_Law_replace_1 (by decide) ?_
  refine x_aload_n d_Law_replace_2 rfl rfl ?_
  refine x_iload_n d_Law_replace_3 rfl rfl ?_
  exact k
theorem s_Law_replace_7 {G : xw_G} {F L bc bs : Nat} {pr : Option Value → xw_A → Prop} {px : String → xw_A → Prop} {h : xw_A} {y0 : Int32} {y1 : Int32} {b2 : Nat} {n_b2 : Nat} {f_b2 : Nat → Int64} (e_b2 : h b2 = some (.inl (2, n_b2, .inr (.inl f_b2)))) (i_8 : vp_in y1 n_b2) (k : xw G m_Law_replace F L bc bs pr px 15 [none, none, none, none] [] (xw_up h b2 (.inl (2, n_b2, .inr (.inl (vp_updL f_b2 (y1).toNatClampNeg y0.toInt64)))))) : xw G m_Law_replace F L bc bs pr px 7 [none, none, none, none] [.int y0, .int y1, .ref b2] h := by
  refine x_i2l d_Law_replace_7 rfl ?_
  refine x_last d_Law_replace_8 e_b2 i_8 ?_
  refine x_goto (tgt := 15) d_Law_replace_9 (by decide) ?_
  exact k
theorem s_Law_replace_12 {G : xw_G} {F L bc bs : Nat} {pr : Option Value → xw_A → Prop} {px : String → xw_A → Prop} {h : xw_A} {b0 : Nat}  (kr : pr (some (.int 1)) h) : xw G m_Law_replace F L bc bs pr px 12 [none, none, none, none] [.ref b0] h := by
  refine x_astore_n d_Law_replace_12 rfl (by decide) trivial ?_
  show xw G m_Law_replace F L bc bs pr px 13 [none, none, none, some (.ref b0)] [] h
  refine x_iconst (v := 1) d_Law_replace_13 (by decide) ?_
  exact x_iret d_Law_replace_14 rfl kr
theorem s_Law_replace_15 {G : xw_G} {F L bc bs : Nat} {pr : Option Value → xw_A → Prop} {px : String → xw_A → Prop} {h : xw_A}   (kr : pr (some (.int 0)) h) : xw G m_Law_replace F L bc bs pr px 15 [none, none, none, none] [] h := by
  refine x_iconst (v := 0) d_Law_replace_15 (by decide) ?_
  exact x_iret d_Law_replace_16 rfl kr
theorem s_Law_delete_0 {G : xw_G} {F L bc bs : Nat} {pr : Option Value → xw_A → Prop} {px : String → xw_A → Prop} {h : xw_A} {a0 : Nat} {x1 : Int32} {a2 : Nat}  (k : xw G m_Law_delete F L bc bs pr px 4 [some (.ref a0), some (.int x1), some (.ref a2), none] [.int x1, .ref a0, .int 0, .ref a2] h) : xw G m_Law_delete F L bc bs pr px 0 [some (.ref a0), some (.int x1), some (.ref a2), none] [] h := by
  refine x_aload_n d_Law_delete_0 rfl rfl ?_
  refine x_iconst (v := 0) d_Law_delete_1 (by decide) ?_
  refine x_aload_n d_Law_delete_2 rfl rfl ?_
  refine x_iload_n d_Law_delete_3 rfl rfl ?_
  exact k
theorem s_Law_delete_7 {G : xw_G} {F L bc bs : Nat} {pr : Option Value → xw_A → Prop} {px : String → xw_A → Prop} {h : xw_A} {y0 : Int32} {y1 : Int32} {b2 : Nat} {n_b2 : Nat} {f_b2 : Nat → Int64} (e_b2 : h b2 = some (.inl (2, n_b2, .inr (.inl f_b2)))) (i_8 : vp_in y1 n_b2) (k : xw G m_Law_delete F L bc bs pr px 15 [none, none, none, none] [] (xw_up h b2 (.inl (2, n_b2, .inr (.inl (vp_updL f_b2 (y1).toNatClampNeg y0.toInt64)))))) : xw G m_Law_delete F L bc bs pr px 7 [none, none, none, none] [.int y0, .int y1, .ref b2] h := by
  refine x_i2l d_Law_delete_7 rfl ?_
  refine x_last d_Law_delete_8 e_b2 i_8 ?_
  refine x_goto (tgt := 15) d_Law_delete_9 (by decide) ?_
  exact k
theorem s_Law_delete_12 {G : xw_G} {F L bc bs : Nat} {pr : Option Value → xw_A → Prop} {px : String → xw_A → Prop} {h : xw_A} {b0 : Nat}  (kr : pr (some (.int 1)) h) : xw G m_Law_delete F L bc bs pr px 12 [none, none, none, none] [.ref b0] h := by
  refine x_astore_n d_Law_delete_12 rfl (by decide) trivial ?_
  show xw G m_Law_delete F L bc bs pr px 13 [none, none, none, some (.ref b0)] [] h
  refine x_iconst (v := 1) d_Law_delete_13 (by decide) ?_
  exact x_iret d_Law_delete_14 rfl kr
theorem s_Law_delete_15 {G : xw_G} {F L bc bs : Nat} {pr : Option Value → xw_A → Prop} {px : String → xw_A → Prop} {h : xw_A}   (kr : pr (some (.int 0)) h) : xw G m_Law_delete F L bc bs pr px 15 [none, none, none, none] [] h := by
  refine x_iconst (v := 0) d_Law_delete_15 (by decide) ?_
  exact x_iret d_Law_delete_16 rfl kr
theorem s_Law_begin_0 {G : xw_G} {F L bc bs : Nat} {pr : Option Value → xw_A → Prop} {px : String → xw_A → Prop} {h : xw_A} {a0 : Nat}  (k : xw G m_Law_begin F L bc bs pr px 1 [some (.ref a0), none] [.ref a0] h) : xw G m_Law_begin F L bc bs pr px 0 [some (.ref a0), none] [] h := by
  refine x_aload_n d_Law_begin_0 rfl rfl ?_
  exact k
theorem s_Law_begin_4 {G : xw_G} {F L bc bs : Nat} {pr : Option Value → xw_A → Prop} {px : String → xw_A → Prop} {h : xw_A}   (k : xw G m_Law_begin F L bc bs pr px 10 [none, none] [] h) : xw G m_Law_begin F L bc bs pr px 4 [none, none] [] h := by
  refine x_goto (tgt := 10) d_Law_begin_4 (by decide) ?_
  exact k
theorem s_Law_begin_7 {G : xw_G} {F L bc bs : Nat} {pr : Option Value → xw_A → Prop} {px : String → xw_A → Prop} {h : xw_A} {b0 : Nat}  (kr : pr (some (.int 1)) h) : xw G m_Law_begin F L bc bs pr px 7 [none, none] [.ref b0] h := by
  refine x_astore_n d_Law_begin_7 rfl (by decide) trivial ?_
  show xw G m_Law_begin F L bc bs pr px 8 [none, some (.ref b0)] [] h
  refine x_iconst (v := 1) d_Law_begin_8 (by decide) ?_
  exact x_iret d_Law_begin_9 rfl kr
theorem s_Law_begin_10 {G : xw_G} {F L bc bs : Nat} {pr : Option Value → xw_A → Prop} {px : String → xw_A → Prop} {h : xw_A}   (kr : pr (some (.int 0)) h) : xw G m_Law_begin F L bc bs pr px 10 [none, none] [] h := by
  refine x_iconst (v := 0) d_Law_begin_10 (by decide) ?_
  exact x_iret d_Law_begin_11 rfl kr
theorem s_Law_commit_0 {G : xw_G} {F L bc bs : Nat} {pr : Option Value → xw_A → Prop} {px : String → xw_A → Prop} {h : xw_A} {a0 : Nat} {a1 : Nat}  (k : xw G m_Law_commit F L bc bs pr px 3 [some (.ref a0), some (.ref a1), none] [.ref a0, .int 0, .ref a1] h) : xw G m_Law_commit F L bc bs pr px 0 [some (.ref a0), some (.ref a1), none] [] h := by
  refine x_aload_n d_Law_commit_0 rfl rfl ?_
  refine x_iconst (v := 0) d_Law_commit_1 (by decide) ?_
  refine x_aload_n d_Law_commit_2 rfl rfl ?_
  exact k
theorem s_Law_commit_6 {G : xw_G} {F L bc bs : Nat} {pr : Option Value → xw_A → Prop} {px : String → xw_A → Prop} {h : xw_A} {y0 : Int32} {y1 : Int32} {b2 : Nat} {n_b2 : Nat} {f_b2 : Nat → Int64} (e_b2 : h b2 = some (.inl (2, n_b2, .inr (.inl f_b2)))) (i_7 : vp_in y1 n_b2) (k : xw G m_Law_commit F L bc bs pr px 14 [none, none, none] [] (xw_up h b2 (.inl (2, n_b2, .inr (.inl (vp_updL f_b2 (y1).toNatClampNeg y0.toInt64)))))) : xw G m_Law_commit F L bc bs pr px 6 [none, none, none] [.int y0, .int y1, .ref b2] h := by
  refine x_i2l d_Law_commit_6 rfl ?_
  refine x_last d_Law_commit_7 e_b2 i_7 ?_
  refine x_goto (tgt := 14) d_Law_commit_8 (by decide) ?_
  exact k
theorem s_Law_commit_11 {G : xw_G} {F L bc bs : Nat} {pr : Option Value → xw_A → Prop} {px : String → xw_A → Prop} {h : xw_A} {b0 : Nat}  (kr : pr (some (.int 1)) h) : xw G m_Law_commit F L bc bs pr px 11 [none, none, none] [.ref b0] h := by
  refine x_astore_n d_Law_commit_11 rfl (by decide) trivial ?_
  show xw G m_Law_commit F L bc bs pr px 12 [none, none, some (.ref b0)] [] h
  refine x_iconst (v := 1) d_Law_commit_12 (by decide) ?_
  exact x_iret d_Law_commit_13 rfl kr
theorem s_Law_commit_14 {G : xw_G} {F L bc bs : Nat} {pr : Option Value → xw_A → Prop} {px : String → xw_A → Prop} {h : xw_A}   (kr : pr (some (.int 0)) h) : xw G m_Law_commit F L bc bs pr px 14 [none, none, none] [] h := by
  refine x_iconst (v := 0) d_Law_commit_14 (by decide) ?_
  exact x_iret d_Law_commit_15 rfl kr
theorem s_Law_rollback_0 {G : xw_G} {F L bc bs : Nat} {pr : Option Value → xw_A → Prop} {px : String → xw_A → Prop} {h : xw_A} {a0 : Nat} {a1 : Nat}  (k : xw G m_Law_rollback F L bc bs pr px 3 [some (.ref a0), some (.ref a1), none] [.ref a0, .int 0, .ref a1] h) : xw G m_Law_rollback F L bc bs pr px 0 [some (.ref a0), some (.ref a1), none] [] h := by
  refine x_aload_n d_Law_rollback_0 rfl rfl ?_
  refine x_iconst (v := 0) d_Law_rollback_1 (by decide) ?_
  refine x_aload_n d_Law_rollback_2 rfl rfl ?_
  exact k
theorem s_Law_rollback_6 {G : xw_G} {F L bc bs : Nat} {pr : Option Value → xw_A → Prop} {px : String → xw_A → Prop} {h : xw_A} {y0 : Int32} {y1 : Int32} {b2 : Nat} {n_b2 : Nat} {f_b2 : Nat → Int64} (e_b2 : h b2 = some (.inl (2, n_b2, .inr (.inl f_b2)))) (i_7 : vp_in y1 n_b2) (k : xw G m_Law_rollback F L bc bs pr px 14 [none, none, none] [] (xw_up h b2 (.inl (2, n_b2, .inr (.inl (vp_updL f_b2 (y1).toNatClampNeg y0.toInt64)))))) : xw G m_Law_rollback F L bc bs pr px 6 [none, none, none] [.int y0, .int y1, .ref b2] h := by
  refine x_i2l d_Law_rollback_6 rfl ?_
  refine x_last d_Law_rollback_7 e_b2 i_7 ?_
  refine x_goto (tgt := 14) d_Law_rollback_8 (by decide) ?_
  exact k
theorem s_Law_rollback_11 {G : xw_G} {F L bc bs : Nat} {pr : Option Value → xw_A → Prop} {px : String → xw_A → Prop} {h : xw_A} {b0 : Nat}  (kr : pr (some (.int 1)) h) : xw G m_Law_rollback F L bc bs pr px 11 [none, none, none] [.ref b0] h := by
  refine x_astore_n d_Law_rollback_11 rfl (by decide) trivial ?_
  show xw G m_Law_rollback F L bc bs pr px 12 [none, none, some (.ref b0)] [] h
  refine x_iconst (v := 1) d_Law_rollback_12 (by decide) ?_
  exact x_iret d_Law_rollback_13 rfl kr
theorem s_Law_rollback_14 {G : xw_G} {F L bc bs : Nat} {pr : Option Value → xw_A → Prop} {px : String → xw_A → Prop} {h : xw_A}   (kr : pr (some (.int 0)) h) : xw G m_Law_rollback F L bc bs pr px 14 [none, none, none] [] h := by
  refine x_iconst (v := 0) d_Law_rollback_14 (by decide) ?_
  exact x_iret d_Law_rollback_15 rfl kr
theorem s_Law_ways_0 {G : xw_G} {F L bc bs : Nat} {pr : Option Value → xw_A → Prop} {px : String → xw_A → Prop} {h : xw_A} {a0 : Nat} {x1 : Int32} {x2 : Int32}  (k : xw G m_Law_ways F L bc bs pr px 3 [some (.ref a0), some (.int x1), some (.int x2), none] [.int x2, .int x1, .ref a0] h) : xw G m_Law_ways F L bc bs pr px 0 [some (.ref a0), some (.int x1), some (.int x2), none] [] h := by
  refine x_aload_n d_Law_ways_0 rfl rfl ?_
  refine x_iload_n d_Law_ways_1 rfl rfl ?_
  refine x_iload_n d_Law_ways_2 rfl rfl ?_
  exact k
theorem s_Law_ways_6 {G : xw_G} {F L bc bs : Nat} {pr : Option Value → xw_A → Prop} {px : String → xw_A → Prop} {h : xw_A}   (k : xw G m_Law_ways F L bc bs pr px 12 [none, none, none, none] [] h) : xw G m_Law_ways F L bc bs pr px 6 [none, none, none, none] [] h := by
  refine x_goto (tgt := 12) d_Law_ways_6 (by decide) ?_
  exact k
theorem s_Law_ways_9 {G : xw_G} {F L bc bs : Nat} {pr : Option Value → xw_A → Prop} {px : String → xw_A → Prop} {h : xw_A} {b0 : Nat}  (kr : pr (some (.int 1)) h) : xw G m_Law_ways F L bc bs pr px 9 [none, none, none, none] [.ref b0] h := by
  refine x_astore_n d_Law_ways_9 rfl (by decide) trivial ?_
  show xw G m_Law_ways F L bc bs pr px 10 [none, none, none, some (.ref b0)] [] h
  refine x_iconst (v := 1) d_Law_ways_10 (by decide) ?_
  exact x_iret d_Law_ways_11 rfl kr
theorem s_Law_ways_12 {G : xw_G} {F L bc bs : Nat} {pr : Option Value → xw_A → Prop} {px : String → xw_A → Prop} {h : xw_A}   (kr : pr (some (.int 0)) h) : xw G m_Law_ways F L bc bs pr px 12 [none, none, none, none] [] h := by
  refine x_iconst (v := 0) d_Law_ways_12 (by decide) ?_
  exact x_iret d_Law_ways_13 rfl kr
theorem s_Law_weight_0 {G : xw_G} {F L bc bs : Nat} {pr : Option Value → xw_A → Prop} {px : String → xw_A → Prop} {h : xw_A} {a0 : Nat} {x1 : Int32} {x2 : Int32} {a3 : Nat}  (k : xw G m_Law_weight F L bc bs pr px 5 [some (.ref a0), some (.int x1), some (.int x2), some (.ref a3), none] [.int x2, .int x1, .ref a0, .int 0, .ref a3] h) : xw G m_Law_weight F L bc bs pr px 0 [some (.ref a0), some (.int x1), some (.int x2), some (.ref a3), none] [] h := by
  refine x_aload_n d_Law_weight_0 rfl rfl ?_
  refine x_iconst (v := 0) d_Law_weight_1 (by decide) ?_
  refine x_aload_n d_Law_weight_2 rfl rfl ?_
  refine x_iload_n d_Law_weight_3 rfl rfl ?_
  refine x_iload_n d_Law_weight_4 rfl rfl ?_
  exact k
theorem s_Law_weight_8 {G : xw_G} {F L bc bs : Nat} {pr : Option Value → xw_A → Prop} {px : String → xw_A → Prop} {h : xw_A} {y0 : Int32} {y1 : Int32} {b2 : Nat} {n_b2 : Nat} {f_b2 : Nat → Int64} (e_b2 : h b2 = some (.inl (2, n_b2, .inr (.inl f_b2)))) (i_9 : vp_in y1 n_b2) (k : xw G m_Law_weight F L bc bs pr px 17 [none, none, none, none, none] [] (xw_up h b2 (.inl (2, n_b2, .inr (.inl (vp_updL f_b2 (y1).toNatClampNeg y0.toInt64)))))) : xw G m_Law_weight F L bc bs pr px 8 [none, none, none, none, none] [.int y0, .int y1, .ref b2] h := by
  refine x_i2l d_Law_weight_8 rfl ?_
  refine x_last d_Law_weight_9 e_b2 i_9 ?_
  refine x_goto (tgt := 17) d_Law_weight_10 (by decide) ?_
  exact k
theorem s_Law_weight_13 {G : xw_G} {F L bc bs : Nat} {pr : Option Value → xw_A → Prop} {px : String → xw_A → Prop} {h : xw_A} {b0 : Nat}  (kr : pr (some (.int 1)) h) : xw G m_Law_weight F L bc bs pr px 13 [none, none, none, none, none] [.ref b0] h := by
  refine x_astore d_Law_weight_13 (by decide) trivial ?_
  show xw G m_Law_weight F L bc bs pr px 15 [none, none, none, none, some (.ref b0)] [] h
  refine x_iconst (v := 1) d_Law_weight_15 (by decide) ?_
  exact x_iret d_Law_weight_16 rfl kr
theorem s_Law_weight_17 {G : xw_G} {F L bc bs : Nat} {pr : Option Value → xw_A → Prop} {px : String → xw_A → Prop} {h : xw_A}   (kr : pr (some (.int 0)) h) : xw G m_Law_weight F L bc bs pr px 17 [none, none, none, none, none] [] h := by
  refine x_iconst (v := 0) d_Law_weight_17 (by decide) ?_
  exact x_iret d_Law_weight_18 rfl kr
theorem s_Law_ask_0 {G : xw_G} {F L bc bs : Nat} {pr : Option Value → xw_A → Prop} {px : String → xw_A → Prop} {h : xw_A} {a0 : Nat} {a1 : Nat}  (k : xw G m_Law_ask F L bc bs pr px 3 [some (.ref a0), some (.ref a1), none] [.ref a0, .int 0, .ref a1] h) : xw G m_Law_ask F L bc bs pr px 0 [some (.ref a0), some (.ref a1), none] [] h := by
  refine x_aload_n d_Law_ask_0 rfl rfl ?_
  refine x_iconst (v := 0) d_Law_ask_1 (by decide) ?_
  refine x_aload_n d_Law_ask_2 rfl rfl ?_
  exact k
theorem s_Law_ask_6 {G : xw_G} {F L bc bs : Nat} {pr : Option Value → xw_A → Prop} {px : String → xw_A → Prop} {h : xw_A} {y0 : Int32} {y1 : Int32} {b2 : Nat} {n_b2 : Nat} {f_b2 : Nat → Int64} (e_b2 : h b2 = some (.inl (2, n_b2, .inr (.inl f_b2)))) (i_7 : vp_in y1 n_b2) (k : xw G m_Law_ask F L bc bs pr px 14 [none, none, none] [] (xw_up h b2 (.inl (2, n_b2, .inr (.inl (vp_updL f_b2 (y1).toNatClampNeg y0.toInt64)))))) : xw G m_Law_ask F L bc bs pr px 6 [none, none, none] [.int y0, .int y1, .ref b2] h := by
  refine x_i2l d_Law_ask_6 rfl ?_
  refine x_last d_Law_ask_7 e_b2 i_7 ?_
  refine x_goto (tgt := 14) d_Law_ask_8 (by decide) ?_
  exact k
theorem s_Law_ask_11 {G : xw_G} {F L bc bs : Nat} {pr : Option Value → xw_A → Prop} {px : String → xw_A → Prop} {h : xw_A} {b0 : Nat}  (kr : pr (some (.int 1)) h) : xw G m_Law_ask F L bc bs pr px 11 [none, none, none] [.ref b0] h := by
  refine x_astore_n d_Law_ask_11 rfl (by decide) trivial ?_
  show xw G m_Law_ask F L bc bs pr px 12 [none, none, some (.ref b0)] [] h
  refine x_iconst (v := 1) d_Law_ask_12 (by decide) ?_
  exact x_iret d_Law_ask_13 rfl kr
theorem s_Law_ask_14 {G : xw_G} {F L bc bs : Nat} {pr : Option Value → xw_A → Prop} {px : String → xw_A → Prop} {h : xw_A}   (kr : pr (some (.int 0)) h) : xw G m_Law_ask F L bc bs pr px 14 [none, none, none] [] h := by
  refine x_iconst (v := 0) d_Law_ask_14 (by decide) ?_
  exact x_iret d_Law_ask_15 rfl kr
theorem s_Law_answer_0 {G : xw_G} {F L bc bs : Nat} {pr : Option Value → xw_A → Prop} {px : String → xw_A → Prop} {h : xw_A} {a0 : Nat} {x1 : Int32} {x2 : Int32} {a3 : Nat}  (k : xw G m_Law_answer F L bc bs pr px 5 [some (.ref a0), some (.int x1), some (.int x2), some (.ref a3), none] [.int x2, .int x1, .ref a0, .int 0, .ref a3] h) : xw G m_Law_answer F L bc bs pr px 0 [some (.ref a0), some (.int x1), some (.int x2), some (.ref a3), none] [] h := by
  refine x_aload_n d_Law_answer_0 rfl rfl ?_
  refine x_iconst (v := 0) d_Law_answer_1 (by decide) ?_
  refine x_aload_n d_Law_answer_2 rfl rfl ?_
  refine x_iload_n d_Law_answer_3 rfl rfl ?_
  refine x_iload_n d_Law_answer_4 rfl rfl ?_
  exact k
theorem s_Law_answer_8 {G : xw_G} {F L bc bs : Nat} {pr : Option Value → xw_A → Prop} {px : String → xw_A → Prop} {h : xw_A} {y0 : Int32} {y1 : Int32} {b2 : Nat} {n_b2 : Nat} {f_b2 : Nat → Int64} (e_b2 : h b2 = some (.inl (2, n_b2, .inr (.inl f_b2)))) (i_9 : vp_in y1 n_b2) (k : xw G m_Law_answer F L bc bs pr px 17 [none, none, none, none, none] [] (xw_up h b2 (.inl (2, n_b2, .inr (.inl (vp_updL f_b2 (y1).toNatClampNeg y0.toInt64)))))) : xw G m_Law_answer F L bc bs pr px 8 [none, none, none, none, none] [.int y0, .int y1, .ref b2] h := by
  refine x_i2l d_Law_answer_8 rfl ?_
  refine x_last d_Law_answer_9 e_b2 i_9 ?_
  refine x_goto (tgt := 17) d_Law_answer_10 (by decide) ?_
  exact k
theorem s_Law_answer_13 {G : xw_G} {F L bc bs : Nat} {pr : Option Value → xw_A → Prop} {px : String → xw_A → Prop} {h : xw_A} {b0 : Nat}  (kr : pr (some (.int 1)) h) : xw G m_Law_answer F L bc bs pr px 13 [none, none, none, none, none] [.ref b0] h := by
  refine x_astore d_Law_answer_13 (by decide) trivial ?_
  show xw G m_Law_answer F L bc bs pr px 15 [none, none, none, none, some (.ref b0)] [] h
  refine x_iconst (v := 1) d_Law_answer_15 (by decide) ?_
  exact x_iret d_Law_answer_16 rfl kr
theorem s_Law_answer_17 {G : xw_G} {F L bc bs : Nat} {pr : Option Value → xw_A → Prop} {px : String → xw_A → Prop} {h : xw_A}   (kr : pr (some (.int 0)) h) : xw G m_Law_answer F L bc bs pr px 17 [none, none, none, none, none] [] h := by
  refine x_iconst (v := 0) d_Law_answer_17 (by decide) ?_
  exact x_iret d_Law_answer_18 rfl kr
theorem s_Law_score_0 {G : xw_G} {F L bc bs : Nat} {pr : Option Value → xw_A → Prop} {px : String → xw_A → Prop} {h : xw_A} {a0 : Nat} {x1 : Int32} {x2 : Int32} {a3 : Nat}  (k : xw G m_Law_score F L bc bs pr px 5 [some (.ref a0), some (.int x1), some (.int x2), some (.ref a3), none] [.int x2, .int x1, .ref a0, .int 0, .ref a3] h) : xw G m_Law_score F L bc bs pr px 0 [some (.ref a0), some (.int x1), some (.int x2), some (.ref a3), none] [] h := by
  refine x_aload_n d_Law_score_0 rfl rfl ?_
  refine x_iconst (v := 0) d_Law_score_1 (by decide) ?_
  refine x_aload_n d_Law_score_2 rfl rfl ?_
  refine x_iload_n d_Law_score_3 rfl rfl ?_
  refine x_iload_n d_Law_score_4 rfl rfl ?_
  exact k
theorem s_Law_score_8 {G : xw_G} {F L bc bs : Nat} {pr : Option Value → xw_A → Prop} {px : String → xw_A → Prop} {h : xw_A} {y0 : UInt64} {y1 : Int32} {b2 : Nat} {n_b2 : Nat} {f_b2 : Nat → UInt64} (e_b2 : h b2 = some (.inl (3, n_b2, .inr (.inr (.inr (.inl f_b2)))))) (i_8 : vp_in y1 n_b2) (k : xw G m_Law_score F L bc bs pr px 16 [none, none, none, none, none] [] (xw_up h b2 (.inl (3, n_b2, .inr (.inr (.inr (.inl (vf_upd f_b2 (y1).toNatClampNeg y0)))))))) : xw G m_Law_score F L bc bs pr px 8 [none, none, none, none, none] [.double y0, .int y1, .ref b2] h := by
  refine x_dast d_Law_score_8 e_b2 i_8 ?_
  refine x_goto (tgt := 16) d_Law_score_9 (by decide) ?_
  exact k
theorem s_Law_score_12 {G : xw_G} {F L bc bs : Nat} {pr : Option Value → xw_A → Prop} {px : String → xw_A → Prop} {h : xw_A} {b0 : Nat}  (kr : pr (some (.int 1)) h) : xw G m_Law_score F L bc bs pr px 12 [none, none, none, none, none] [.ref b0] h := by
  refine x_astore d_Law_score_12 (by decide) trivial ?_
  show xw G m_Law_score F L bc bs pr px 14 [none, none, none, none, some (.ref b0)] [] h
  refine x_iconst (v := 1) d_Law_score_14 (by decide) ?_
  exact x_iret d_Law_score_15 rfl kr
theorem s_Law_score_16 {G : xw_G} {F L bc bs : Nat} {pr : Option Value → xw_A → Prop} {px : String → xw_A → Prop} {h : xw_A}   (kr : pr (some (.int 0)) h) : xw G m_Law_score F L bc bs pr px 16 [none, none, none, none, none] [] h := by
  refine x_iconst (v := 0) d_Law_score_16 (by decide) ?_
  exact x_iret d_Law_score_17 rfl kr
theorem s_Law_look_0 {G : xw_G} {F L bc bs : Nat} {pr : Option Value → xw_A → Prop} {px : String → xw_A → Prop} {h : xw_A} {a0 : Nat} {x1 : Int32} {x2 : Int32} {a3 : Nat}  (k : xw G m_Law_look F L bc bs pr px 5 [some (.ref a0), some (.int x1), some (.int x2), some (.ref a3), none] [.int x2, .int x1, .ref a0, .int 0, .ref a3] h) : xw G m_Law_look F L bc bs pr px 0 [some (.ref a0), some (.int x1), some (.int x2), some (.ref a3), none] [] h := by
  refine x_aload_n d_Law_look_0 rfl rfl ?_
  refine x_iconst (v := 0) d_Law_look_1 (by decide) ?_
  refine x_aload_n d_Law_look_2 rfl rfl ?_
  refine x_iload_n d_Law_look_3 rfl rfl ?_
  refine x_iload_n d_Law_look_4 rfl rfl ?_
  exact k
theorem s_Law_look_8 {G : xw_G} {F L bc bs : Nat} {pr : Option Value → xw_A → Prop} {px : String → xw_A → Prop} {h : xw_A} {y0 : Int32} {y1 : Int32} {b2 : Nat} {n_b2 : Nat} {f_b2 : Nat → Int64} (e_b2 : h b2 = some (.inl (2, n_b2, .inr (.inl f_b2)))) (i_9 : vp_in y1 n_b2) (k : xw G m_Law_look F L bc bs pr px 21 [none, none, none, none, none] [] (xw_up h b2 (.inl (2, n_b2, .inr (.inl (vp_updL f_b2 (y1).toNatClampNeg y0.toInt64)))))) : xw G m_Law_look F L bc bs pr px 8 [none, none, none, none, none] [.int y0, .int y1, .ref b2] h := by
  refine x_i2l d_Law_look_8 rfl ?_
  refine x_last d_Law_look_9 e_b2 i_9 ?_
  refine x_goto (tgt := 21) d_Law_look_10 (by decide) ?_
  exact k
theorem s_Law_look_13 {G : xw_G} {F L bc bs : Nat} {pr : Option Value → xw_A → Prop} {px : String → xw_A → Prop} {h : xw_A} {b0 : Nat}  (kr : pr (some (.int 1)) h) : xw G m_Law_look F L bc bs pr px 13 [none, none, none, none, none] [.ref b0] h := by
  refine x_astore d_Law_look_13 (by decide) trivial ?_
  show xw G m_Law_look F L bc bs pr px 15 [none, none, none, none, some (.ref b0)] [] h
  refine x_iconst (v := 1) d_Law_look_15 (by decide) ?_
  exact x_iret d_Law_look_16 rfl kr
theorem s_Law_look_17 {G : xw_G} {F L bc bs : Nat} {pr : Option Value → xw_A → Prop} {px : String → xw_A → Prop} {h : xw_A} {b0 : Nat}  (kr : pr (some (.int 2)) h) : xw G m_Law_look F L bc bs pr px 17 [none, none, none, none, none] [.ref b0] h := by
  refine x_astore d_Law_look_17 (by decide) trivial ?_
  show xw G m_Law_look F L bc bs pr px 19 [none, none, none, none, some (.ref b0)] [] h
  refine x_iconst (v := 2) d_Law_look_19 (by decide) ?_
  exact x_iret d_Law_look_20 rfl kr
theorem s_Law_look_21 {G : xw_G} {F L bc bs : Nat} {pr : Option Value → xw_A → Prop} {px : String → xw_A → Prop} {h : xw_A}   (kr : pr (some (.int 0)) h) : xw G m_Law_look F L bc bs pr px 21 [none, none, none, none, none] [] h := by
  refine x_iconst (v := 0) d_Law_look_21 (by decide) ?_
  exact x_iret d_Law_look_22 rfl kr
theorem s_Law_segment_0 {G : xw_G} {F L bc bs : Nat} {pr : Option Value → xw_A → Prop} {px : String → xw_A → Prop} {h : xw_A} {a0 : Nat} {x1 : Int32} {x2 : Int32} {a3 : Nat}  (k : xw G m_Law_segment F L bc bs pr px 5 [some (.ref a0), some (.int x1), some (.int x2), some (.ref a3), none] [.int x2, .int x1, .ref a0, .int 0, .ref a3] h) : xw G m_Law_segment F L bc bs pr px 0 [some (.ref a0), some (.int x1), some (.int x2), some (.ref a3), none] [] h := by
  refine x_aload_n d_Law_segment_0 rfl rfl ?_
  refine x_iconst (v := 0) d_Law_segment_1 (by decide) ?_
  refine x_aload_n d_Law_segment_2 rfl rfl ?_
  refine x_iload_n d_Law_segment_3 rfl rfl ?_
  refine x_iload_n d_Law_segment_4 rfl rfl ?_
  exact k
theorem s_Law_segment_8 {G : xw_G} {F L bc bs : Nat} {pr : Option Value → xw_A → Prop} {px : String → xw_A → Prop} {h : xw_A} {y0 : Int32} {y1 : Int32} {b2 : Nat} {n_b2 : Nat} {f_b2 : Nat → Int64} (e_b2 : h b2 = some (.inl (2, n_b2, .inr (.inl f_b2)))) (i_9 : vp_in y1 n_b2) (k : xw G m_Law_segment F L bc bs pr px 21 [none, none, none, none, none] [] (xw_up h b2 (.inl (2, n_b2, .inr (.inl (vp_updL f_b2 (y1).toNatClampNeg y0.toInt64)))))) : xw G m_Law_segment F L bc bs pr px 8 [none, none, none, none, none] [.int y0, .int y1, .ref b2] h := by
  refine x_i2l d_Law_segment_8 rfl ?_
  refine x_last d_Law_segment_9 e_b2 i_9 ?_
  refine x_goto (tgt := 21) d_Law_segment_10 (by decide) ?_
  exact k
theorem s_Law_segment_13 {G : xw_G} {F L bc bs : Nat} {pr : Option Value → xw_A → Prop} {px : String → xw_A → Prop} {h : xw_A} {b0 : Nat}  (kr : pr (some (.int 1)) h) : xw G m_Law_segment F L bc bs pr px 13 [none, none, none, none, none] [.ref b0] h := by
  refine x_astore d_Law_segment_13 (by decide) trivial ?_
  show xw G m_Law_segment F L bc bs pr px 15 [none, none, none, none, some (.ref b0)] [] h
  refine x_iconst (v := 1) d_Law_segment_15 (by decide) ?_
  exact x_iret d_Law_segment_16 rfl kr
theorem s_Law_segment_17 {G : xw_G} {F L bc bs : Nat} {pr : Option Value → xw_A → Prop} {px : String → xw_A → Prop} {h : xw_A} {b0 : Nat}  (kr : pr (some (.int 2)) h) : xw G m_Law_segment F L bc bs pr px 17 [none, none, none, none, none] [.ref b0] h := by
  refine x_astore d_Law_segment_17 (by decide) trivial ?_
  show xw G m_Law_segment F L bc bs pr px 19 [none, none, none, none, some (.ref b0)] [] h
  refine x_iconst (v := 2) d_Law_segment_19 (by decide) ?_
  exact x_iret d_Law_segment_20 rfl kr
theorem s_Law_segment_21 {G : xw_G} {F L bc bs : Nat} {pr : Option Value → xw_A → Prop} {px : String → xw_A → Prop} {h : xw_A}   (kr : pr (some (.int 0)) h) : xw G m_Law_segment F L bc bs pr px 21 [none, none, none, none, none] [] h := by
  refine x_iconst (v := 0) d_Law_segment_21 (by decide) ?_
  exact x_iret d_Law_segment_22 rfl kr
theorem s_Law_count_0 {G : xw_G} {F L bc bs : Nat} {pr : Option Value → xw_A → Prop} {px : String → xw_A → Prop} {h : xw_A} {a0 : Nat} {x1 : Int32} {a2 : Nat}  (k : xw G m_Law_count F L bc bs pr px 4 [some (.ref a0), some (.int x1), some (.ref a2), none] [.int x1, .ref a0, .int 0, .ref a2] h) : xw G m_Law_count F L bc bs pr px 0 [some (.ref a0), some (.int x1), some (.ref a2), none] [] h := by
  refine x_aload_n d_Law_count_0 rfl rfl ?_
  refine x_iconst (v := 0) d_Law_count_1 (by decide) ?_
  refine x_aload_n d_Law_count_2 rfl rfl ?_
  refine x_iload_n d_Law_count_3 rfl rfl ?_
  exact k
theorem s_Law_count_7 {G : xw_G} {F L bc bs : Nat} {pr : Option Value → xw_A → Prop} {px : String → xw_A → Prop} {h : xw_A} {y0 : Int32} {y1 : Int32} {b2 : Nat} {n_b2 : Nat} {f_b2 : Nat → Int64} (e_b2 : h b2 = some (.inl (2, n_b2, .inr (.inl f_b2)))) (i_8 : vp_in y1 n_b2) (k : xw G m_Law_count F L bc bs pr px 15 [none, none, none, none] [] (xw_up h b2 (.inl (2, n_b2, .inr (.inl (vp_updL f_b2 (y1).toNatClampNeg y0.toInt64)))))) : xw G m_Law_count F L bc bs pr px 7 [none, none, none, none] [.int y0, .int y1, .ref b2] h := by
  refine x_i2l d_Law_count_7 rfl ?_
  refine x_last d_Law_count_8 e_b2 i_8 ?_
  refine x_goto (tgt := 15) d_Law_count_9 (by decide) ?_
  exact k
theorem s_Law_count_12 {G : xw_G} {F L bc bs : Nat} {pr : Option Value → xw_A → Prop} {px : String → xw_A → Prop} {h : xw_A} {b0 : Nat}  (kr : pr (some (.int 1)) h) : xw G m_Law_count F L bc bs pr px 12 [none, none, none, none] [.ref b0] h := by
  refine x_astore_n d_Law_count_12 rfl (by decide) trivial ?_
  show xw G m_Law_count F L bc bs pr px 13 [none, none, none, some (.ref b0)] [] h
  refine x_iconst (v := 1) d_Law_count_13 (by decide) ?_
  exact x_iret d_Law_count_14 rfl kr
theorem s_Law_count_15 {G : xw_G} {F L bc bs : Nat} {pr : Option Value → xw_A → Prop} {px : String → xw_A → Prop} {h : xw_A}   (kr : pr (some (.int 0)) h) : xw G m_Law_count F L bc bs pr px 15 [none, none, none, none] [] h := by
  refine x_iconst (v := 0) d_Law_count_15 (by decide) ?_
  exact x_iret d_Law_count_16 rfl kr
theorem s_Law_law_0 {G : xw_G} {F L bc bs : Nat} {pr : Option Value → xw_A → Prop} {px : String → xw_A → Prop} {h : xw_A} {a0 : Nat} (u_0 : 1 ≤ bc ∧ 14 ≤ bs) (k : ∀ q0 : Nat, h q0 = none → xw G m_Law_law F L (bc - 1) (bs - 14) pr px 4 [some (.ref a0), none, none, none, none, none, none, none, none] [.ref q0, .ref q0] (xw_up h q0 (.inr (0, [.null, .null, .null, .null, .null, .null, .null, .null, .int 0, .int 0, .int 0, .int 0, .int 0, .int 0])))) : xw G m_Law_law F L bc bs pr px 0 [some (.ref a0), none, none, none, none, none, none, none, none] [] h := by
  refine x_new (ci := 0) (fs := [.null, .null, .null, .null, .null, .null, .null, .null, .int 0, .int 0, .int 0, .int 0, .int 0, .int 0]) d_Law_law_0 (by decide) nw_Law_8.1 nw_Law_8.2.1 nw_Law_8.2.2 df_Shelf u_0 (fun q0 hq0 => ?_)
  show xw G m_Law_law F L (bc - 1) (bs - 14) pr px 3 [some (.ref a0), none, none, none, none, none, none, none, none] [.ref q0] (xw_up h q0 (.inr (0, [.null, .null, .null, .null, .null, .null, .null, .null, .int 0, .int 0, .int 0, .int 0, .int 0, .int 0])))
  refine x_dup d_Law_law_3 rfl ?_
  exact (k q0 hq0)
theorem s_Law_law_7 {G : xw_G} {F L bc bs : Nat} {pr : Option Value → xw_A → Prop} {px : String → xw_A → Prop} {h : xw_A} {a0 : Nat} {b0 : Nat} (u_8 : 1 ≤ bc ∧ 62 ≤ bs) (k : ∀ q8 : Nat, h q8 = none → xw G m_Law_law F L (bc - 1) (bs - 62) pr px 12 [some (.ref a0), some (.ref b0), none, none, none, none, none, none, none] [.ref q8, .ref q8] (xw_up h q8 (.inr (11, [.int 0, .int 0, .int 0, .null, .null, .null, .null, .null, .null, .null, .int 0, .int 0, .null, .null, .null, .int 0, .int 0, .null, .null, .int 0, .int 0, .null, .null, .null, .null, .null, .int 0, .int 0, .int 0, .int 0, .int 0, .int 0, .int 0, .int 0, .int 0, .int 0, .int 0, .int 0, .int 0, .int 0, .int 0, .null, .null, .null, .null, .null, .null, .null, .null, .null, .null, .null, .null, .null, .null, .int 0, .int 0, .null, .null, .null, .null, .int 0])))) : xw G m_Law_law F L bc bs pr px 7 [some (.ref a0), none, none, none, none, none, none, none, none] [.ref b0] h := by
  refine x_astore_n d_Law_law_7 rfl (by decide) rfl ?_
  show xw G m_Law_law F L bc bs pr px 8 [some (.ref a0), some (.ref b0), none, none, none, none, none, none, none] [] h
  refine x_new (ci := 11) (fs := [.int 0, .int 0, .int 0, .null, .null, .null, .null, .null, .null, .null, .int 0, .int 0, .null, .null, .null, .int 0, .int 0, .null, .null, .int 0, .int 0, .null, .null, .null, .null, .null, .int 0, .int 0, .int 0, .int 0, .int 0, .int 0, .int 0, .int 0, .int 0, .int 0, .int 0, .int 0, .int 0, .int 0, .int 0, .null, .null, .null, .null, .null, .null, .null, .null, .null, .null, .null, .null, .null, .null, .int 0, .int 0, .null, .null, .null, .null, .int 0]) d_Law_law_8 (by decide) nw_Law_73.1 nw_Law_73.2.1 nw_Law_73.2.2 df_Model u_8 (fun q8 hq8 => ?_)
  show xw G m_Law_law F L (bc - 1) (bs - 62) pr px 11 [some (.ref a0), some (.ref b0), none, none, none, none, none, none, none] [.ref q8] (xw_up h q8 (.inr (11, [.int 0, .int 0, .int 0, .null, .null, .null, .null, .null, .null, .null, .int 0, .int 0, .null, .null, .null, .int 0, .int 0, .null, .null, .int 0, .int 0, .null, .null, .null, .null, .null, .int 0, .int 0, .int 0, .int 0, .int 0, .int 0, .int 0, .int 0, .int 0, .int 0, .int 0, .int 0, .int 0, .int 0, .int 0, .null, .null, .null, .null, .null, .null, .null, .null, .null, .null, .null, .null, .null, .null, .int 0, .int 0, .null, .null, .null, .null, .int 0])))
  refine x_dup d_Law_law_11 rfl ?_
  exact (k q8 hq8)
theorem s_Law_law_15 {G : xw_G} {F L bc bs : Nat} {pr : Option Value → xw_A → Prop} {px : String → xw_A → Prop} {h : xw_A} {a0 : Nat} {a1 : Nat} {b0 : Nat} (u_17 : 1 ≤ bc ∧ 1 ≤ bs) (u_21 : 1 ≤ (bc - 1) ∧ 1 ≤ (bs - 1)) (k : ∀ q17 : Nat, h q17 = none → ∀ q21 : Nat, (xw_up h q17 (.inl (2, 1, .inr (.inl ((fun _ => 0)))))) q21 = none → xw G m_Law_law F L ((bc - 1) - 1) ((bs - 1) - 1) pr px 28 [some (.ref a0), some (.ref a1), some (.ref b0), some (.ref q17), some (.ref q21), some (.int 0), none, none, none] [] (xw_up (xw_up h q17 (.inl (2, 1, .inr (.inl ((fun _ => 0)))))) q21 (.inl (3, 1, .inr (.inr (.inr (.inl ((fun _ => 0))))))))) : xw G m_Law_law F L bc bs pr px 15 [some (.ref a0), some (.ref a1), none, none, none, none, none, none, none] [.ref b0] h := by
  refine x_astore_n d_Law_law_15 rfl (by decide) rfl ?_
  show xw G m_Law_law F L bc bs pr px 16 [some (.ref a0), some (.ref a1), some (.ref b0), none, none, none, none, none, none] [] h
  refine x_iconst (v := 1) d_Law_law_16 (by decide) ?_
  refine x_lnew (N := 1) d_Law_law_17 (by decide +kernel) (by decide) (by decide) (by decide) u_17 (fun q17 hq17 => ?_)
  show xw G m_Law_law F L (bc - 1) (bs - 1) pr px 19 [some (.ref a0), some (.ref a1), some (.ref b0), none, none, none, none, none, none] [.ref q17] (xw_up h q17 (.inl (2, 1, .inr (.inl ((fun _ => 0))))))
  refine x_astore_n d_Law_law_19 rfl (by decide) rfl ?_
  show xw G m_Law_law F L (bc - 1) (bs - 1) pr px 20 [some (.ref a0), some (.ref a1), some (.ref b0), some (.ref q17), none, none, none, none, none] [] (xw_up h q17 (.inl (2, 1, .inr (.inl ((fun _ => 0))))))
  refine x_iconst (v := 1) d_Law_law_20 (by decide) ?_
  refine x_dnew (N := 1) d_Law_law_21 (by decide +kernel) (by decide) (by decide) (by decide) u_21 (fun q21 hq21 => ?_)
  show xw G m_Law_law F L ((bc - 1) - 1) ((bs - 1) - 1) pr px 23 [some (.ref a0), some (.ref a1), some (.ref b0), some (.ref q17), none, none, none, none, none] [.ref q21] (xw_up (xw_up h q17 (.inl (2, 1, .inr (.inl ((fun _ => 0)))))) q21 (.inl (3, 1, .inr (.inr (.inr (.inl ((fun _ => 0))))))))
  refine x_astore d_Law_law_23 (by decide) rfl ?_
  show xw G m_Law_law F L ((bc - 1) - 1) ((bs - 1) - 1) pr px 25 [some (.ref a0), some (.ref a1), some (.ref b0), some (.ref q17), some (.ref q21), none, none, none, none] [] (xw_up (xw_up h q17 (.inl (2, 1, .inr (.inl ((fun _ => 0)))))) q21 (.inl (3, 1, .inr (.inr (.inr (.inl ((fun _ => 0))))))))
  refine x_iconst (v := 0) d_Law_law_25 (by decide) ?_
  refine x_istore d_Law_law_26 (by decide) rfl ?_
  show xw G m_Law_law F L ((bc - 1) - 1) ((bs - 1) - 1) pr px 28 [some (.ref a0), some (.ref a1), some (.ref b0), some (.ref q17), some (.ref q21), some (.int 0), none, none, none] [] (xw_up (xw_up h q17 (.inl (2, 1, .inr (.inl ((fun _ => 0)))))) q21 (.inl (3, 1, .inr (.inr (.inr (.inl ((fun _ => 0))))))))
  exact (k q17 hq17 q21 hq21)
theorem s_Law_law_28 {G : xw_G} {F L bc bs : Nat} {pr : Option Value → xw_A → Prop} {px : String → xw_A → Prop} {h : xw_A} {a0 : Nat} {a1 : Nat} {a2 : Nat} {a3 : Nat} {a4 : Nat} {x5 : Int32} {N : Nat} {xs : Nat → Int32} (hX : va_X a0 N xs G.2.2.1 G.2.2.1.heap) (kt : ((Int32.ofNat N) - 3) < x5 → xw G m_Law_law F L bc bs pr px 1151 [none, none, none, none, none, none, none, none, none] [] h) (kf : ¬ ((Int32.ofNat N) - 3) < x5 → xw G m_Law_law F L bc bs pr px 37 [some (.ref a0), some (.ref a1), some (.ref a2), some (.ref a3), some (.ref a4), some (.int x5), none, none, none] [] h) : xw G m_Law_law F L bc bs pr px 28 [some (.ref a0), some (.ref a1), some (.ref a2), some (.ref a3), some (.ref a4), some (.int x5), none, none, none] [] h := by
  refine x_iload d_Law_law_28 rfl ?_
  refine x_aload_n d_Law_law_30 rfl rfl ?_
  refine x_slen hX d_Law_law_31 ?_
  refine x_iconst (v := 3) d_Law_law_32 (by decide) ?_
  refine x_isub d_Law_law_33 ?_
  refine x_icmp_gt (tgt := 1151) d_Law_law_34 (by decide) (fun hc => ?_) (fun hc => ?_)
  · exact x_le (lv' := [none, none, none, none, none, none, none, none, none]) (xw_le_n (xw_le_n (xw_le_n (xw_le_n (xw_le_n (xw_le_n (xw_le_n (xw_le_n (xw_le_n xw_le_e))))))))) (kt hc)
  · exact kf hc
theorem s_Law_law_37 {G : xw_G} {F L bc bs : Nat} {pr : Option Value → xw_A → Prop} {px : String → xw_A → Prop} {h : xw_A} {a0 : Nat} {a1 : Nat} {a2 : Nat} {a3 : Nat} {a4 : Nat} {x5 : Int32} {N : Nat} {xs : Nat → Int32} (hX : va_X a0 N xs G.2.2.1 G.2.2.1.heap) (i_40 : vp_in x5 N) (kw : xw G m_Law_law F L bc bs pr px 44 [some (.ref a0), some (.ref a1), some (.ref a2), some (.ref a3), some (.ref a4), some (.int x5), none, none, none] [.int ((xs x5.toNatClampNeg) &&& 31)] h) : xw G m_Law_law F L bc bs pr px 37 [some (.ref a0), some (.ref a1), some (.ref a2), some (.ref a3), some (.ref a4), some (.int x5), none, none, none] [] h := by
  refine x_aload_n d_Law_law_37 rfl rfl ?_
  refine x_iload d_Law_law_38 rfl ?_
  refine x_sld hX d_Law_law_40 i_40 ?_
  refine x_bipush (v := 31) d_Law_law_41 (by decide) ?_
  refine x_iand d_Law_law_43 ?_
  exact kw
theorem s_Law_law_140 {G : xw_G} {F L bc bs : Nat} {pr : Option Value → xw_A → Prop} {px : String → xw_A → Prop} {h : xw_A} {a0 : Nat} {a1 : Nat} {a2 : Nat} {a3 : Nat} {a4 : Nat} {x5 : Int32} {N : Nat} {xs : Nat → Int32} (hX : va_X a0 N xs G.2.2.1 G.2.2.1.heap) (i_146 : vp_in (x5 + 1) N) (i_156 : vp_in (x5 + 2) N) (k : xw G m_Law_law F L bc bs pr px 164 [some (.ref a0), some (.ref a1), some (.ref a2), some (.ref a3), some (.ref a4), some (.int x5), none, none, none] [.ref a3, .long ((((xs (x5 + 1).toNatClampNeg).toInt64) <<< ((32 : Int32).toInt64 &&& 63)) ||| (((xs (x5 + 2).toNatClampNeg).toInt64) &&& 4294967295)), .ref a1] h) : xw G m_Law_law F L bc bs pr px 140 [some (.ref a0), some (.ref a1), some (.ref a2), some (.ref a3), some (.ref a4), some (.int x5), none, none, none] [] h := by
  refine x_aload_n d_Law_law_140 rfl rfl ?_
  refine x_aload_n d_Law_law_141 rfl rfl ?_
  refine x_iload d_Law_law_142 rfl ?_
  refine x_iconst (v := 1) d_Law_law_144 (by decide) ?_
  refine x_iadd d_Law_law_145 ?_
  refine x_sld hX d_Law_law_146 i_146 ?_
  refine x_i2l d_Law_law_147 rfl ?_
  refine x_bipush (v := 32) d_Law_law_148 (by decide) ?_
  refine x_lshl d_Law_law_150 rfl ?_
  refine x_aload_n d_Law_law_151 rfl rfl ?_
  refine x_iload d_Law_law_152 rfl ?_
  refine x_iconst (v := 2) d_Law_law_154 (by decide) ?_
  refine x_iadd d_Law_law_155 ?_
  refine x_sld hX d_Law_law_156 i_156 ?_
  refine x_i2l d_Law_law_157 rfl ?_
  refine x_ldc2 (v := 4294967295) d_Law_law_158 (by decide +kernel) ?_
  refine x_land d_Law_law_161 ?_
  refine x_lor d_Law_law_162 ?_
  refine x_aload_n d_Law_law_163 rfl rfl ?_
  exact k
theorem s_Law_law_167 {G : xw_G} {F L bc bs : Nat} {pr : Option Value → xw_A → Prop} {px : String → xw_A → Prop} {h : xw_A} {a0 : Nat} {a1 : Nat} {a2 : Nat} {a3 : Nat} {a4 : Nat} {x5 : Int32} {y0 : Int32} {N : Nat} {xs : Nat → Int32} (hX : va_X a0 N xs G.2.2.1 G.2.2.1.heap) (i_175 : vp_in (x5 + 1) N) (i_185 : vp_in (x5 + 2) N) (k : xw G m_Law_law F L bc bs pr px 192 [some (.ref a0), some (.ref a1), some (.ref a2), some (.ref a3), some (.ref a4), some (.int x5), some (.int y0), none, none] [.long ((((xs (x5 + 1).toNatClampNeg).toInt64) <<< ((32 : Int32).toInt64 &&& 63)) ||| (((xs (x5 + 2).toNatClampNeg).toInt64) &&& 4294967295)), .ref a2] h) : xw G m_Law_law F L bc bs pr px 167 [some (.ref a0), some (.ref a1), some (.ref a2), some (.ref a3), some (.ref a4), some (.int x5), none, none, none] [.int y0] h := by
  refine x_istore d_Law_law_167 (by decide) rfl ?_
  show xw G m_Law_law F L bc bs pr px 169 [some (.ref a0), some (.ref a1), some (.ref a2), some (.ref a3), some (.ref a4), some (.int x5), some (.int y0), none, none] [] h
  refine x_aload_n d_Law_law_169 rfl rfl ?_
  refine x_aload_n d_Law_law_170 rfl rfl ?_
  refine x_iload d_Law_law_171 rfl ?_
  refine x_iconst (v := 1) d_Law_law_173 (by decide) ?_
  refine x_iadd d_Law_law_174 ?_
  refine x_sld hX d_Law_law_175 i_175 ?_
  refine x_i2l d_Law_law_176 rfl ?_
  refine x_bipush (v := 32) d_Law_law_177 (by decide) ?_
  refine x_lshl d_Law_law_179 rfl ?_
  refine x_aload_n d_Law_law_180 rfl rfl ?_
  refine x_iload d_Law_law_181 rfl ?_
  refine x_iconst (v := 2) d_Law_law_183 (by decide) ?_
  refine x_iadd d_Law_law_184 ?_
  refine x_sld hX d_Law_law_185 i_185 ?_
  refine x_i2l d_Law_law_186 rfl ?_
  refine x_ldc2 (v := 4294967295) d_Law_law_187 (by decide +kernel) ?_
  refine x_land d_Law_law_190 ?_
  refine x_lor d_Law_law_191 ?_
  exact k
theorem s_Law_law_195 {G : xw_G} {F L bc bs : Nat} {pr : Option Value → xw_A → Prop} {px : String → xw_A → Prop} {h : xw_A} {a0 : Nat} {a1 : Nat} {a2 : Nat} {a3 : Nat} {a4 : Nat} {x5 : Int32} {x6 : Int32} {y0 : Int32}  (k : xw G m_Law_law F L bc bs pr px 198 [some (.ref a0), some (.ref a1), some (.ref a2), some (.ref a3), some (.ref a4), some (.int x5), some (.int x6), some (.int y0), none] [.ref a2] h) : xw G m_Law_law F L bc bs pr px 195 [some (.ref a0), some (.ref a1), some (.ref a2), some (.ref a3), some (.ref a4), some (.int x5), some (.int x6), none, none] [.int y0] h := by
  refine x_istore d_Law_law_195 (by decide) rfl ?_
  show xw G m_Law_law F L bc bs pr px 197 [some (.ref a0), some (.ref a1), some (.ref a2), some (.ref a3), some (.ref a4), some (.int x5), some (.int x6), some (.int y0), none] [] h
  refine x_aload_n d_Law_law_197 rfl rfl ?_
  exact k
theorem s_Law_law_201 {G : xw_G} {F L bc bs : Nat} {pr : Option Value → xw_A → Prop} {px : String → xw_A → Prop} {h : xw_A} {a0 : Nat} {a1 : Nat} {a2 : Nat} {a3 : Nat} {a4 : Nat} {x5 : Int32} {x6 : Int32} {x7 : Int32} {y0 : Int32}  (kt : y0 = x6 → xw G m_Law_law F L bc bs pr px 208 [some (.ref a0), some (.ref a1), some (.ref a2), some (.ref a3), some (.ref a4), some (.int x5), some (.int x6), some (.int x7), none] [] h) (kf : ¬ y0 = x6 → xw G m_Law_law F L bc bs pr px 206 [none, none, none, none, none, none, none, none, none] [] h) : xw G m_Law_law F L bc bs pr px 201 [some (.ref a0), some (.ref a1), some (.ref a2), some (.ref a3), some (.ref a4), some (.int x5), some (.int x6), some (.int x7), none] [.int y0] h := by
  refine x_iload d_Law_law_201 rfl ?_
  refine x_icmp_eq (tgt := 208) d_Law_law_203 (by decide) (fun hc => ?_) (fun hc => ?_)
  · exact kt hc
  · exact x_le (lv' := [none, none, none, none, none, none, none, none, none]) (xw_le_n (xw_le_n (xw_le_n (xw_le_n (xw_le_n (xw_le_n (xw_le_n (xw_le_n (xw_le_n xw_le_e))))))))) (kf hc)
theorem s_Law_law_206 {G : xw_G} {F L bc bs : Nat} {pr : Option Value → xw_A → Prop} {px : String → xw_A → Prop} {h : xw_A}   (kr : pr (some (.int 0)) h) : xw G m_Law_law F L bc bs pr px 206 [none, none, none, none, none, none, none, none, none] [] h := by
  refine x_iconst (v := 0) d_Law_law_206 (by decide) ?_
  exact x_zret d_Law_law_207 rfl rfl kr
theorem s_Law_law_208 {G : xw_G} {F L bc bs : Nat} {pr : Option Value → xw_A → Prop} {px : String → xw_A → Prop} {h : xw_A} {a0 : Nat} {a1 : Nat} {a2 : Nat} {a3 : Nat} {a4 : Nat} {x5 : Int32} {x6 : Int32} {x7 : Int32}  (kt : ¬ x6 = 0 → xw G m_Law_law F L bc bs pr px 225 [some (.ref a0), some (.ref a1), some (.ref a2), some (.ref a3), some (.ref a4), some (.int x5), none, none, none] [] h) (kf : x6 = 0 → xw G m_Law_law F L bc bs pr px 213 [some (.ref a0), some (.ref a1), some (.ref a2), some (.ref a3), some (.ref a4), some (.int x5), none, some (.int x7), none] [] h) : xw G m_Law_law F L bc bs pr px 208 [some (.ref a0), some (.ref a1), some (.ref a2), some (.ref a3), some (.ref a4), some (.int x5), some (.int x6), some (.int x7), none] [] h := by
  refine x_iload d_Law_law_208 rfl ?_
  refine x_if_ne (tgt := 225) d_Law_law_210 (by decide) (fun hc => ?_) (fun hc => ?_)
  · exact x_le (lv' := [some (.ref a0), some (.ref a1), some (.ref a2), some (.ref a3), some (.ref a4), some (.int x5), none, none, none]) (xw_le_s (xw_le_s (xw_le_s (xw_le_s (xw_le_s (xw_le_s (xw_le_n (xw_le_n (xw_le_n xw_le_e))))))))) (kt hc)
  · exact x_le (lv' := [some (.ref a0), some (.ref a1), some (.ref a2), some (.ref a3), some (.ref a4), some (.int x5), none, some (.int x7), none]) (xw_le_s (xw_le_s (xw_le_s (xw_le_s (xw_le_s (xw_le_s (xw_le_n (xw_le_s (xw_le_n xw_le_e))))))))) (kf hc)
theorem s_Law_law_213 {G : xw_G} {F L bc bs : Nat} {pr : Option Value → xw_A → Prop} {px : String → xw_A → Prop} {h : xw_A} {a0 : Nat} {a1 : Nat} {a2 : Nat} {a3 : Nat} {a4 : Nat} {x5 : Int32} {x7 : Int32} {n_a3 : Nat} {f_a3 : Nat → Int64} (e_a3 : h a3 = some (.inl (2, n_a3, .inr (.inl f_a3)))) (i_215 : vp_in 0 n_a3) (kt : (lg_cmp (f_a3 (0 : Int32).toNatClampNeg) x7.toInt64) = 0 → xw G m_Law_law F L bc bs pr px 225 [some (.ref a0), some (.ref a1), some (.ref a2), some (.ref a3), some (.ref a4), some (.int x5), none, none, none] [] h) (kf : ¬ (lg_cmp (f_a3 (0 : Int32).toNatClampNeg) x7.toInt64) = 0 → xw G m_Law_law F L bc bs pr px 223 [none, none, none, none, none, none, none, none, none] [] h) : xw G m_Law_law F L bc bs pr px 213 [some (.ref a0), some (.ref a1), some (.ref a2), some (.ref a3), some (.ref a4), some (.int x5), none, some (.int x7), none] [] h := by
  refine x_aload_n d_Law_law_213 rfl rfl ?_
  refine x_iconst (v := 0) d_Law_law_214 (by decide) ?_
  refine x_lald d_Law_law_215 e_a3 i_215 ?_
  refine x_iload d_Law_law_216 rfl ?_
  refine x_i2l d_Law_law_218 rfl ?_
  refine x_lcmp d_Law_law_219 ?_
  refine x_if_eq (tgt := 225) d_Law_law_220 (by decide) (fun hc => ?_) (fun hc => ?_)
  · exact x_le (lv' := [some (.ref a0), some (.ref a1), some (.ref a2), some (.ref a3), some (.ref a4), some (.int x5), none, none, none]) (xw_le_s (xw_le_s (xw_le_s (xw_le_s (xw_le_s (xw_le_s (xw_le_n (xw_le_n (xw_le_n xw_le_e))))))))) (kt hc)
  · exact x_le (lv' := [none, none, none, none, none, none, none, none, none]) (xw_le_n (xw_le_n (xw_le_n (xw_le_n (xw_le_n (xw_le_n (xw_le_n (xw_le_n (xw_le_n xw_le_e))))))))) (kf hc)
theorem s_Law_law_223 {G : xw_G} {F L bc bs : Nat} {pr : Option Value → xw_A → Prop} {px : String → xw_A → Prop} {h : xw_A}   (kr : pr (some (.int 0)) h) : xw G m_Law_law F L bc bs pr px 223 [none, none, none, none, none, none, none, none, none] [] h := by
  refine x_iconst (v := 0) d_Law_law_223 (by decide) ?_
  exact x_zret d_Law_law_224 rfl rfl kr
theorem s_Law_law_225 {G : xw_G} {F L bc bs : Nat} {pr : Option Value → xw_A → Prop} {px : String → xw_A → Prop} {h : xw_A} {a0 : Nat} {a1 : Nat} {a2 : Nat} {a3 : Nat} {a4 : Nat} {x5 : Int32}  (k : xw G m_Law_law F L bc bs pr px 1145 [some (.ref a0), some (.ref a1), some (.ref a2), some (.ref a3), some (.ref a4), some (.int x5), none, none, none] [] h) : xw G m_Law_law F L bc bs pr px 225 [some (.ref a0), some (.ref a1), some (.ref a2), some (.ref a3), some (.ref a4), some (.int x5), none, none, none] [] h := by
  refine x_goto (tgt := 1145) d_Law_law_225 (by decide) ?_
  exact k
theorem s_Law_law_228 {G : xw_G} {F L bc bs : Nat} {pr : Option Value → xw_A → Prop} {px : String → xw_A → Prop} {h : xw_A} {a0 : Nat} {a1 : Nat} {a2 : Nat} {a3 : Nat} {a4 : Nat} {x5 : Int32}  (k : xw G m_Law_law F L bc bs pr px 229 [some (.ref a0), some (.ref a1), some (.ref a2), some (.ref a3), some (.ref a4), some (.int x5), none, none, none] [.ref a1] h) : xw G m_Law_law F L bc bs pr px 228 [some (.ref a0), some (.ref a1), some (.ref a2), some (.ref a3), some (.ref a4), some (.int x5), none, none, none] [] h := by
  refine x_aload_n d_Law_law_228 rfl rfl ?_
  exact k
theorem s_Law_law_232 {G : xw_G} {F L bc bs : Nat} {pr : Option Value → xw_A → Prop} {px : String → xw_A → Prop} {h : xw_A} {a0 : Nat} {a1 : Nat} {a2 : Nat} {a3 : Nat} {a4 : Nat} {x5 : Int32} {y0 : Int32}  (k : xw G m_Law_law F L bc bs pr px 233 [some (.ref a0), some (.ref a1), some (.ref a2), some (.ref a3), some (.ref a4), some (.int x5), none, none, none] [.ref a2, .int y0] h) : xw G m_Law_law F L bc bs pr px 232 [some (.ref a0), some (.ref a1), some (.ref a2), some (.ref a3), some (.ref a4), some (.int x5), none, none, none] [.int y0] h := by
  refine x_aload_n d_Law_law_232 rfl rfl ?_
  exact k
theorem s_Law_law_236 {G : xw_G} {F L bc bs : Nat} {pr : Option Value → xw_A → Prop} {px : String → xw_A → Prop} {h : xw_A} {a0 : Nat} {a1 : Nat} {a2 : Nat} {a3 : Nat} {a4 : Nat} {x5 : Int32} {y0 : Int32} {y1 : Int32}  (kt : y1 = y0 → xw G m_Law_law F L bc bs pr px 1145 [some (.ref a0), some (.ref a1), some (.ref a2), some (.ref a3), some (.ref a4), some (.int x5), none, none, none] [] h) (kf : ¬ y1 = y0 → xw G m_Law_law F L bc bs pr px 239 [none, none, none, none, none, none, none, none, none] [] h) : xw G m_Law_law F L bc bs pr px 236 [some (.ref a0), some (.ref a1), some (.ref a2), some (.ref a3), some (.ref a4), some (.int x5), none, none, none] [.int y0, .int y1] h := by
  refine x_icmp_eq (tgt := 1145) d_Law_law_236 (by decide) (fun hc => ?_) (fun hc => ?_)
  · exact kt hc
  · exact x_le (lv' := [none, none, none, none, none, none, none, none, none]) (xw_le_n (xw_le_n (xw_le_n (xw_le_n (xw_le_n (xw_le_n (xw_le_n (xw_le_n (xw_le_n xw_le_e))))))))) (kf hc)
theorem s_Law_law_239 {G : xw_G} {F L bc bs : Nat} {pr : Option Value → xw_A → Prop} {px : String → xw_A → Prop} {h : xw_A}   (kr : pr (some (.int 0)) h) : xw G m_Law_law F L bc bs pr px 239 [none, none, none, none, none, none, none, none, none] [] h := by
  refine x_iconst (v := 0) d_Law_law_239 (by decide) ?_
  exact x_zret d_Law_law_240 rfl rfl kr
theorem s_Law_law_241 {G : xw_G} {F L bc bs : Nat} {pr : Option Value → xw_A → Prop} {px : String → xw_A → Prop} {h : xw_A} {a0 : Nat} {a1 : Nat} {a2 : Nat} {a3 : Nat} {a4 : Nat} {x5 : Int32} {N : Nat} {xs : Nat → Int32} (hX : va_X a0 N xs G.2.2.1 G.2.2.1.heap) (i_247 : vp_in (x5 + 1) N) (k : xw G m_Law_law F L bc bs pr px 249 [some (.ref a0), some (.ref a1), some (.ref a2), some (.ref a3), some (.ref a4), some (.int x5), none, none, none] [.ref a3, .int (xs (x5 + 1).toNatClampNeg), .ref a1] h) : xw G m_Law_law F L bc bs pr px 241 [some (.ref a0), some (.ref a1), some (.ref a2), some (.ref a3), some (.ref a4), some (.int x5), none, none, none] [] h := by
  refine x_aload_n d_Law_law_241 rfl rfl ?_
  refine x_aload_n d_Law_law_242 rfl rfl ?_
  refine x_iload d_Law_law_243 rfl ?_
  refine x_iconst (v := 1) d_Law_law_245 (by decide) ?_
  refine x_iadd d_Law_law_246 ?_
  refine x_sld hX d_Law_law_247 i_247 ?_
  refine x_aload_n d_Law_law_248 rfl rfl ?_
  exact k
theorem s_Law_law_252 {G : xw_G} {F L bc bs : Nat} {pr : Option Value → xw_A → Prop} {px : String → xw_A → Prop} {h : xw_A} {a0 : Nat} {a1 : Nat} {a2 : Nat} {a3 : Nat} {a4 : Nat} {x5 : Int32} {y0 : Int32} {N : Nat} {xs : Nat → Int32} (hX : va_X a0 N xs G.2.2.1 G.2.2.1.heap) (i_260 : vp_in (x5 + 1) N) (k : xw G m_Law_law F L bc bs pr px 261 [some (.ref a0), some (.ref a1), some (.ref a2), some (.ref a3), some (.ref a4), some (.int x5), some (.int y0), none, none] [.int (xs (x5 + 1).toNatClampNeg), .ref a2] h) : xw G m_Law_law F L bc bs pr px 252 [some (.ref a0), some (.ref a1), some (.ref a2), some (.ref a3), some (.ref a4), some (.int x5), none, none, none] [.int y0] h := by
  refine x_istore d_Law_law_252 (by decide) rfl ?_
  show xw G m_Law_law F L bc bs pr px 254 [some (.ref a0), some (.ref a1), some (.ref a2), some (.ref a3), some (.ref a4), some (.int x5), some (.int y0), none, none] [] h
  refine x_aload_n d_Law_law_254 rfl rfl ?_
  refine x_aload_n d_Law_law_255 rfl rfl ?_
  refine x_iload d_Law_law_256 rfl ?_
  refine x_iconst (v := 1) d_Law_law_258 (by decide) ?_
  refine x_iadd d_Law_law_259 ?_
  refine x_sld hX d_Law_law_260 i_260 ?_
  exact k
theorem s_Law_law_264 {G : xw_G} {F L bc bs : Nat} {pr : Option Value → xw_A → Prop} {px : String → xw_A → Prop} {h : xw_A} {a0 : Nat} {a1 : Nat} {a2 : Nat} {a3 : Nat} {a4 : Nat} {x5 : Int32} {x6 : Int32} {y0 : Int32}  (k : xw G m_Law_law F L bc bs pr px 267 [some (.ref a0), some (.ref a1), some (.ref a2), some (.ref a3), some (.ref a4), some (.int x5), some (.int x6), some (.int y0), none] [.ref a2] h) : xw G m_Law_law F L bc bs pr px 264 [some (.ref a0), some (.ref a1), some (.ref a2), some (.ref a3), some (.ref a4), some (.int x5), some (.int x6), none, none] [.int y0] h := by
  refine x_istore d_Law_law_264 (by decide) rfl ?_
  show xw G m_Law_law F L bc bs pr px 266 [some (.ref a0), some (.ref a1), some (.ref a2), some (.ref a3), some (.ref a4), some (.int x5), some (.int x6), some (.int y0), none] [] h
  refine x_aload_n d_Law_law_266 rfl rfl ?_
  exact k
theorem s_Law_law_270 {G : xw_G} {F L bc bs : Nat} {pr : Option Value → xw_A → Prop} {px : String → xw_A → Prop} {h : xw_A} {a0 : Nat} {a1 : Nat} {a2 : Nat} {a3 : Nat} {a4 : Nat} {x5 : Int32} {x6 : Int32} {x7 : Int32} {y0 : Int32}  (kt : y0 = x6 → xw G m_Law_law F L bc bs pr px 277 [some (.ref a0), some (.ref a1), some (.ref a2), some (.ref a3), some (.ref a4), some (.int x5), some (.int x6), some (.int x7), none] [] h) (kf : ¬ y0 = x6 → xw G m_Law_law F L bc bs pr px 275 [none, none, none, none, none, none, none, none, none] [] h) : xw G m_Law_law F L bc bs pr px 270 [some (.ref a0), some (.ref a1), some (.ref a2), some (.ref a3), some (.ref a4), some (.int x5), some (.int x6), some (.int x7), none] [.int y0] h := by
  refine x_iload d_Law_law_270 rfl ?_
  refine x_icmp_eq (tgt := 277) d_Law_law_272 (by decide) (fun hc => ?_) (fun hc => ?_)
  · exact kt hc
  · exact x_le (lv' := [none, none, none, none, none, none, none, none, none]) (xw_le_n (xw_le_n (xw_le_n (xw_le_n (xw_le_n (xw_le_n (xw_le_n (xw_le_n (xw_le_n xw_le_e))))))))) (kf hc)
theorem s_Law_law_275 {G : xw_G} {F L bc bs : Nat} {pr : Option Value → xw_A → Prop} {px : String → xw_A → Prop} {h : xw_A}   (kr : pr (some (.int 0)) h) : xw G m_Law_law F L bc bs pr px 275 [none, none, none, none, none, none, none, none, none] [] h := by
  refine x_iconst (v := 0) d_Law_law_275 (by decide) ?_
  exact x_zret d_Law_law_276 rfl rfl kr
theorem s_Law_law_277 {G : xw_G} {F L bc bs : Nat} {pr : Option Value → xw_A → Prop} {px : String → xw_A → Prop} {h : xw_A} {a0 : Nat} {a1 : Nat} {a2 : Nat} {a3 : Nat} {a4 : Nat} {x5 : Int32} {x6 : Int32} {x7 : Int32}  (kt : ¬ x6 = 0 → xw G m_Law_law F L bc bs pr px 294 [some (.ref a0), some (.ref a1), some (.ref a2), some (.ref a3), some (.ref a4), some (.int x5), none, none, none] [] h) (kf : x6 = 0 → xw G m_Law_law F L bc bs pr px 282 [some (.ref a0), some (.ref a1), some (.ref a2), some (.ref a3), some (.ref a4), some (.int x5), none, some (.int x7), none] [] h) : xw G m_Law_law F L bc bs pr px 277 [some (.ref a0), some (.ref a1), some (.ref a2), some (.ref a3), some (.ref a4), some (.int x5), some (.int x6), some (.int x7), none] [] h := by
  refine x_iload d_Law_law_277 rfl ?_
  refine x_if_ne (tgt := 294) d_Law_law_279 (by decide) (fun hc => ?_) (fun hc => ?_)
  · exact x_le (lv' := [some (.ref a0), some (.ref a1), some (.ref a2), some (.ref a3), some (.ref a4), some (.int x5), none, none, none]) (xw_le_s (xw_le_s (xw_le_s (xw_le_s (xw_le_s (xw_le_s (xw_le_n (xw_le_n (xw_le_n xw_le_e))))))))) (kt hc)
  · exact x_le (lv' := [some (.ref a0), some (.ref a1), some (.ref a2), some (.ref a3), some (.ref a4), some (.int x5), none, some (.int x7), none]) (xw_le_s (xw_le_s (xw_le_s (xw_le_s (xw_le_s (xw_le_s (xw_le_n (xw_le_s (xw_le_n xw_le_e))))))))) (kf hc)
theorem s_Law_law_282 {G : xw_G} {F L bc bs : Nat} {pr : Option Value → xw_A → Prop} {px : String → xw_A → Prop} {h : xw_A} {a0 : Nat} {a1 : Nat} {a2 : Nat} {a3 : Nat} {a4 : Nat} {x5 : Int32} {x7 : Int32} {n_a3 : Nat} {f_a3 : Nat → Int64} (e_a3 : h a3 = some (.inl (2, n_a3, .inr (.inl f_a3)))) (i_284 : vp_in 0 n_a3) (kt : (lg_cmp (f_a3 (0 : Int32).toNatClampNeg) x7.toInt64) = 0 → xw G m_Law_law F L bc bs pr px 294 [some (.ref a0), some (.ref a1), some (.ref a2), some (.ref a3), some (.ref a4), some (.int x5), none, none, none] [] h) (kf : ¬ (lg_cmp (f_a3 (0 : Int32).toNatClampNeg) x7.toInt64) = 0 → xw G m_Law_law F L bc bs pr px 292 [none, none, none, none, none, none, none, none, none] [] h) : xw G m_Law_law F L bc bs pr px 282 [some (.ref a0), some (.ref a1), some (.ref a2), some (.ref a3), some (.ref a4), some (.int x5), none, some (.int x7), none] [] h := by
  refine x_aload_n d_Law_law_282 rfl rfl ?_
  refine x_iconst (v := 0) d_Law_law_283 (by decide) ?_
  refine x_lald d_Law_law_284 e_a3 i_284 ?_
  refine x_iload d_Law_law_285 rfl ?_
  refine x_i2l d_Law_law_287 rfl ?_
  refine x_lcmp d_Law_law_288 ?_
  refine x_if_eq (tgt := 294) d_Law_law_289 (by decide) (fun hc => ?_) (fun hc => ?_)
  · exact x_le (lv' := [some (.ref a0), some (.ref a1), some (.ref a2), some (.ref a3), some (.ref a4), some (.int x5), none, none, none]) (xw_le_s (xw_le_s (xw_le_s (xw_le_s (xw_le_s (xw_le_s (xw_le_n (xw_le_n (xw_le_n xw_le_e))))))))) (kt hc)
  · exact x_le (lv' := [none, none, none, none, none, none, none, none, none]) (xw_le_n (xw_le_n (xw_le_n (xw_le_n (xw_le_n (xw_le_n (xw_le_n (xw_le_n (xw_le_n xw_le_e))))))))) (kf hc)
theorem s_Law_law_292 {G : xw_G} {F L bc bs : Nat} {pr : Option Value → xw_A → Prop} {px : String → xw_A → Prop} {h : xw_A}   (kr : pr (some (.int 0)) h) : xw G m_Law_law F L bc bs pr px 292 [none, none, none, none, none, none, none, none, none] [] h := by
  refine x_iconst (v := 0) d_Law_law_292 (by decide) ?_
  exact x_zret d_Law_law_293 rfl rfl kr
theorem s_Law_law_294 {G : xw_G} {F L bc bs : Nat} {pr : Option Value → xw_A → Prop} {px : String → xw_A → Prop} {h : xw_A} {a0 : Nat} {a1 : Nat} {a2 : Nat} {a3 : Nat} {a4 : Nat} {x5 : Int32}  (k : xw G m_Law_law F L bc bs pr px 1145 [some (.ref a0), some (.ref a1), some (.ref a2), some (.ref a3), some (.ref a4), some (.int x5), none, none, none] [] h) : xw G m_Law_law F L bc bs pr px 294 [some (.ref a0), some (.ref a1), some (.ref a2), some (.ref a3), some (.ref a4), some (.int x5), none, none, none] [] h := by
  refine x_goto (tgt := 1145) d_Law_law_294 (by decide) ?_
  exact k
theorem s_Law_law_297 {G : xw_G} {F L bc bs : Nat} {pr : Option Value → xw_A → Prop} {px : String → xw_A → Prop} {h : xw_A} {a0 : Nat} {a1 : Nat} {a2 : Nat} {a3 : Nat} {a4 : Nat} {x5 : Int32}  (k : xw G m_Law_law F L bc bs pr px 299 [some (.ref a0), some (.ref a1), some (.ref a2), some (.ref a3), some (.ref a4), some (.int x5), none, none, none] [.ref a3, .ref a1] h) : xw G m_Law_law F L bc bs pr px 297 [some (.ref a0), some (.ref a1), some (.ref a2), some (.ref a3), some (.ref a4), some (.int x5), none, none, none] [] h := by
  refine x_aload_n d_Law_law_297 rfl rfl ?_
  refine x_aload_n d_Law_law_298 rfl rfl ?_
  exact k
theorem s_Law_law_302 {G : xw_G} {F L bc bs : Nat} {pr : Option Value → xw_A → Prop} {px : String → xw_A → Prop} {h : xw_A} {a0 : Nat} {a1 : Nat} {a2 : Nat} {a3 : Nat} {a4 : Nat} {x5 : Int32} {y0 : Int32}  (k : xw G m_Law_law F L bc bs pr px 305 [some (.ref a0), some (.ref a1), some (.ref a2), some (.ref a3), some (.ref a4), some (.int x5), some (.int y0), none, none] [.ref a2] h) : xw G m_Law_law F L bc bs pr px 302 [some (.ref a0), some (.ref a1), some (.ref a2), some (.ref a3), some (.ref a4), some (.int x5), none, none, none] [.int y0] h := by
  refine x_istore d_Law_law_302 (by decide) rfl ?_
  show xw G m_Law_law F L bc bs pr px 304 [some (.ref a0), some (.ref a1), some (.ref a2), some (.ref a3), some (.ref a4), some (.int x5), some (.int y0), none, none] [] h
  refine x_aload_n d_Law_law_304 rfl rfl ?_
  exact k
theorem s_Law_law_308 {G : xw_G} {F L bc bs : Nat} {pr : Option Value → xw_A → Prop} {px : String → xw_A → Prop} {h : xw_A} {a0 : Nat} {a1 : Nat} {a2 : Nat} {a3 : Nat} {a4 : Nat} {x5 : Int32} {x6 : Int32} {y0 : Int32}  (k : xw G m_Law_law F L bc bs pr px 311 [some (.ref a0), some (.ref a1), some (.ref a2), some (.ref a3), some (.ref a4), some (.int x5), some (.int x6), some (.int y0), none] [.ref a2] h) : xw G m_Law_law F L bc bs pr px 308 [some (.ref a0), some (.ref a1), some (.ref a2), some (.ref a3), some (.ref a4), some (.int x5), some (.int x6), none, none] [.int y0] h := by
  refine x_istore d_Law_law_308 (by decide) rfl ?_
  show xw G m_Law_law F L bc bs pr px 310 [some (.ref a0), some (.ref a1), some (.ref a2), some (.ref a3), some (.ref a4), some (.int x5), some (.int x6), some (.int y0), none] [] h
  refine x_aload_n d_Law_law_310 rfl rfl ?_
  exact k
theorem s_Law_law_314 {G : xw_G} {F L bc bs : Nat} {pr : Option Value → xw_A → Prop} {px : String → xw_A → Prop} {h : xw_A} {a0 : Nat} {a1 : Nat} {a2 : Nat} {a3 : Nat} {a4 : Nat} {x5 : Int32} {x6 : Int32} {x7 : Int32} {y0 : Int32}  (kt : y0 = x6 → xw G m_Law_law F L bc bs pr px 321 [some (.ref a0), some (.ref a1), some (.ref a2), some (.ref a3), some (.ref a4), some (.int x5), some (.int x6), some (.int x7), none] [] h) (kf : ¬ y0 = x6 → xw G m_Law_law F L bc bs pr px 319 [none, none, none, none, none, none, none, none, none] [] h) : xw G m_Law_law F L bc bs pr px 314 [some (.ref a0), some (.ref a1), some (.ref a2), some (.ref a3), some (.ref a4), some (.int x5), some (.int x6), some (.int x7), none] [.int y0] h := by
  refine x_iload d_Law_law_314 rfl ?_
  refine x_icmp_eq (tgt := 321) d_Law_law_316 (by decide) (fun hc => ?_) (fun hc => ?_)
  · exact kt hc
  · exact x_le (lv' := [none, none, none, none, none, none, none, none, none]) (xw_le_n (xw_le_n (xw_le_n (xw_le_n (xw_le_n (xw_le_n (xw_le_n (xw_le_n (xw_le_n xw_le_e))))))))) (kf hc)
theorem s_Law_law_319 {G : xw_G} {F L bc bs : Nat} {pr : Option Value → xw_A → Prop} {px : String → xw_A → Prop} {h : xw_A}   (kr : pr (some (.int 0)) h) : xw G m_Law_law F L bc bs pr px 319 [none, none, none, none, none, none, none, none, none] [] h := by
  refine x_iconst (v := 0) d_Law_law_319 (by decide) ?_
  exact x_zret d_Law_law_320 rfl rfl kr
theorem s_Law_law_321 {G : xw_G} {F L bc bs : Nat} {pr : Option Value → xw_A → Prop} {px : String → xw_A → Prop} {h : xw_A} {a0 : Nat} {a1 : Nat} {a2 : Nat} {a3 : Nat} {a4 : Nat} {x5 : Int32} {x6 : Int32} {x7 : Int32}  (kt : ¬ x6 = 0 → xw G m_Law_law F L bc bs pr px 338 [some (.ref a0), some (.ref a1), some (.ref a2), some (.ref a3), some (.ref a4), some (.int x5), none, none, none] [] h) (kf : x6 = 0 → xw G m_Law_law F L bc bs pr px 326 [some (.ref a0), some (.ref a1), some (.ref a2), some (.ref a3), some (.ref a4), some (.int x5), none, some (.int x7), none] [] h) : xw G m_Law_law F L bc bs pr px 321 [some (.ref a0), some (.ref a1), some (.ref a2), some (.ref a3), some (.ref a4), some (.int x5), some (.int x6), some (.int x7), none] [] h := by
  refine x_iload d_Law_law_321 rfl ?_
  refine x_if_ne (tgt := 338) d_Law_law_323 (by decide) (fun hc => ?_) (fun hc => ?_)
  · exact x_le (lv' := [some (.ref a0), some (.ref a1), some (.ref a2), some (.ref a3), some (.ref a4), some (.int x5), none, none, none]) (xw_le_s (xw_le_s (xw_le_s (xw_le_s (xw_le_s (xw_le_s (xw_le_n (xw_le_n (xw_le_n xw_le_e))))))))) (kt hc)
  · exact x_le (lv' := [some (.ref a0), some (.ref a1), some (.ref a2), some (.ref a3), some (.ref a4), some (.int x5), none, some (.int x7), none]) (xw_le_s (xw_le_s (xw_le_s (xw_le_s (xw_le_s (xw_le_s (xw_le_n (xw_le_s (xw_le_n xw_le_e))))))))) (kf hc)
theorem s_Law_law_326 {G : xw_G} {F L bc bs : Nat} {pr : Option Value → xw_A → Prop} {px : String → xw_A → Prop} {h : xw_A} {a0 : Nat} {a1 : Nat} {a2 : Nat} {a3 : Nat} {a4 : Nat} {x5 : Int32} {x7 : Int32} {n_a3 : Nat} {f_a3 : Nat → Int64} (e_a3 : h a3 = some (.inl (2, n_a3, .inr (.inl f_a3)))) (i_328 : vp_in 0 n_a3) (kt : (lg_cmp (f_a3 (0 : Int32).toNatClampNeg) x7.toInt64) = 0 → xw G m_Law_law F L bc bs pr px 338 [some (.ref a0), some (.ref a1), some (.ref a2), some (.ref a3), some (.ref a4), some (.int x5), none, none, none] [] h) (kf : ¬ (lg_cmp (f_a3 (0 : Int32).toNatClampNeg) x7.toInt64) = 0 → xw G m_Law_law F L bc bs pr px 336 [none, none, none, none, none, none, none, none, none] [] h) : xw G m_Law_law F L bc bs pr px 326 [some (.ref a0), some (.ref a1), some (.ref a2), some (.ref a3), some (.ref a4), some (.int x5), none, some (.int x7), none] [] h := by
  refine x_aload_n d_Law_law_326 rfl rfl ?_
  refine x_iconst (v := 0) d_Law_law_327 (by decide) ?_
  refine x_lald d_Law_law_328 e_a3 i_328 ?_
  refine x_iload d_Law_law_329 rfl ?_
  refine x_i2l d_Law_law_331 rfl ?_
  refine x_lcmp d_Law_law_332 ?_
  refine x_if_eq (tgt := 338) d_Law_law_333 (by decide) (fun hc => ?_) (fun hc => ?_)
  · exact x_le (lv' := [some (.ref a0), some (.ref a1), some (.ref a2), some (.ref a3), some (.ref a4), some (.int x5), none, none, none]) (xw_le_s (xw_le_s (xw_le_s (xw_le_s (xw_le_s (xw_le_s (xw_le_n (xw_le_n (xw_le_n xw_le_e))))))))) (kt hc)
  · exact x_le (lv' := [none, none, none, none, none, none, none, none, none]) (xw_le_n (xw_le_n (xw_le_n (xw_le_n (xw_le_n (xw_le_n (xw_le_n (xw_le_n (xw_le_n xw_le_e))))))))) (kf hc)
theorem s_Law_law_336 {G : xw_G} {F L bc bs : Nat} {pr : Option Value → xw_A → Prop} {px : String → xw_A → Prop} {h : xw_A}   (kr : pr (some (.int 0)) h) : xw G m_Law_law F L bc bs pr px 336 [none, none, none, none, none, none, none, none, none] [] h := by
  refine x_iconst (v := 0) d_Law_law_336 (by decide) ?_
  exact x_zret d_Law_law_337 rfl rfl kr
theorem s_Law_law_338 {G : xw_G} {F L bc bs : Nat} {pr : Option Value → xw_A → Prop} {px : String → xw_A → Prop} {h : xw_A} {a0 : Nat} {a1 : Nat} {a2 : Nat} {a3 : Nat} {a4 : Nat} {x5 : Int32}  (k : xw G m_Law_law F L bc bs pr px 1145 [some (.ref a0), some (.ref a1), some (.ref a2), some (.ref a3), some (.ref a4), some (.int x5), none, none, none] [] h) : xw G m_Law_law F L bc bs pr px 338 [some (.ref a0), some (.ref a1), some (.ref a2), some (.ref a3), some (.ref a4), some (.int x5), none, none, none] [] h := by
  refine x_goto (tgt := 1145) d_Law_law_338 (by decide) ?_
  exact k
theorem s_Law_law_341 {G : xw_G} {F L bc bs : Nat} {pr : Option Value → xw_A → Prop} {px : String → xw_A → Prop} {h : xw_A} {a0 : Nat} {a1 : Nat} {a2 : Nat} {a3 : Nat} {a4 : Nat} {x5 : Int32} {N : Nat} {xs : Nat → Int32} (hX : va_X a0 N xs G.2.2.1 G.2.2.1.heap) (i_347 : vp_in (x5 + 1) N) (k : xw G m_Law_law F L bc bs pr px 349 [some (.ref a0), some (.ref a1), some (.ref a2), some (.ref a3), some (.ref a4), some (.int x5), none, none, none] [.ref a3, .int (xs (x5 + 1).toNatClampNeg), .ref a1] h) : xw G m_Law_law F L bc bs pr px 341 [some (.ref a0), some (.ref a1), some (.ref a2), some (.ref a3), some (.ref a4), some (.int x5), none, none, none] [] h := by
  refine x_aload_n d_Law_law_341 rfl rfl ?_
  refine x_aload_n d_Law_law_342 rfl rfl ?_
  refine x_iload d_Law_law_343 rfl ?_
  refine x_iconst (v := 1) d_Law_law_345 (by decide) ?_
  refine x_iadd d_Law_law_346 ?_
  refine x_sld hX d_Law_law_347 i_347 ?_
  refine x_aload_n d_Law_law_348 rfl rfl ?_
  exact k
theorem s_Law_law_352 {G : xw_G} {F L bc bs : Nat} {pr : Option Value → xw_A → Prop} {px : String → xw_A → Prop} {h : xw_A} {a0 : Nat} {a1 : Nat} {a2 : Nat} {a3 : Nat} {a4 : Nat} {x5 : Int32} {y0 : Int32} {N : Nat} {xs : Nat → Int32} (hX : va_X a0 N xs G.2.2.1 G.2.2.1.heap) (i_360 : vp_in (x5 + 1) N) (k : xw G m_Law_law F L bc bs pr px 361 [some (.ref a0), some (.ref a1), some (.ref a2), some (.ref a3), some (.ref a4), some (.int x5), some (.int y0), none, none] [.int (xs (x5 + 1).toNatClampNeg), .ref a2] h) : xw G m_Law_law F L bc bs pr px 352 [some (.ref a0), some (.ref a1), some (.ref a2), some (.ref a3), some (.ref a4), some (.int x5), none, none, none] [.int y0] h := by
  refine x_istore d_Law_law_352 (by decide) rfl ?_
  show xw G m_Law_law F L bc bs pr px 354 [some (.ref a0), some (.ref a1), some (.ref a2), some (.ref a3), some (.ref a4), some (.int x5), some (.int y0), none, none] [] h
  refine x_aload_n d_Law_law_354 rfl rfl ?_
  refine x_aload_n d_Law_law_355 rfl rfl ?_
  refine x_iload d_Law_law_356 rfl ?_
  refine x_iconst (v := 1) d_Law_law_358 (by decide) ?_
  refine x_iadd d_Law_law_359 ?_
  refine x_sld hX d_Law_law_360 i_360 ?_
  exact k
theorem s_Law_law_364 {G : xw_G} {F L bc bs : Nat} {pr : Option Value → xw_A → Prop} {px : String → xw_A → Prop} {h : xw_A} {a0 : Nat} {a1 : Nat} {a2 : Nat} {a3 : Nat} {a4 : Nat} {x5 : Int32} {x6 : Int32} {y0 : Int32}  (k : xw G m_Law_law F L bc bs pr px 367 [some (.ref a0), some (.ref a1), some (.ref a2), some (.ref a3), some (.ref a4), some (.int x5), some (.int x6), some (.int y0), none] [.ref a2] h) : xw G m_Law_law F L bc bs pr px 364 [some (.ref a0), some (.ref a1), some (.ref a2), some (.ref a3), some (.ref a4), some (.int x5), some (.int x6), none, none] [.int y0] h := by
  refine x_istore d_Law_law_364 (by decide) rfl ?_
  show xw G m_Law_law F L bc bs pr px 366 [some (.ref a0), some (.ref a1), some (.ref a2), some (.ref a3), some (.ref a4), some (.int x5), some (.int x6), some (.int y0), none] [] h
  refine x_aload_n d_Law_law_366 rfl rfl ?_
  exact k
theorem s_Law_law_370 {G : xw_G} {F L bc bs : Nat} {pr : Option Value → xw_A → Prop} {px : String → xw_A → Prop} {h : xw_A} {a0 : Nat} {a1 : Nat} {a2 : Nat} {a3 : Nat} {a4 : Nat} {x5 : Int32} {x6 : Int32} {x7 : Int32} {y0 : Int32}  (kt : y0 = x6 → xw G m_Law_law F L bc bs pr px 377 [some (.ref a0), some (.ref a1), some (.ref a2), some (.ref a3), some (.ref a4), some (.int x5), some (.int x6), some (.int x7), none] [] h) (kf : ¬ y0 = x6 → xw G m_Law_law F L bc bs pr px 375 [none, none, none, none, none, none, none, none, none] [] h) : xw G m_Law_law F L bc bs pr px 370 [some (.ref a0), some (.ref a1), some (.ref a2), some (.ref a3), some (.ref a4), some (.int x5), some (.int x6), some (.int x7), none] [.int y0] h := by
  refine x_iload d_Law_law_370 rfl ?_
  refine x_icmp_eq (tgt := 377) d_Law_law_372 (by decide) (fun hc => ?_) (fun hc => ?_)
  · exact kt hc
  · exact x_le (lv' := [none, none, none, none, none, none, none, none, none]) (xw_le_n (xw_le_n (xw_le_n (xw_le_n (xw_le_n (xw_le_n (xw_le_n (xw_le_n (xw_le_n xw_le_e))))))))) (kf hc)
theorem s_Law_law_375 {G : xw_G} {F L bc bs : Nat} {pr : Option Value → xw_A → Prop} {px : String → xw_A → Prop} {h : xw_A}   (kr : pr (some (.int 0)) h) : xw G m_Law_law F L bc bs pr px 375 [none, none, none, none, none, none, none, none, none] [] h := by
  refine x_iconst (v := 0) d_Law_law_375 (by decide) ?_
  exact x_zret d_Law_law_376 rfl rfl kr
theorem s_Law_law_377 {G : xw_G} {F L bc bs : Nat} {pr : Option Value → xw_A → Prop} {px : String → xw_A → Prop} {h : xw_A} {a0 : Nat} {a1 : Nat} {a2 : Nat} {a3 : Nat} {a4 : Nat} {x5 : Int32} {x6 : Int32} {x7 : Int32}  (kt : ¬ x6 = 0 → xw G m_Law_law F L bc bs pr px 394 [some (.ref a0), some (.ref a1), some (.ref a2), some (.ref a3), some (.ref a4), some (.int x5), none, none, none] [] h) (kf : x6 = 0 → xw G m_Law_law F L bc bs pr px 382 [some (.ref a0), some (.ref a1), some (.ref a2), some (.ref a3), some (.ref a4), some (.int x5), none, some (.int x7), none] [] h) : xw G m_Law_law F L bc bs pr px 377 [some (.ref a0), some (.ref a1), some (.ref a2), some (.ref a3), some (.ref a4), some (.int x5), some (.int x6), some (.int x7), none] [] h := by
  refine x_iload d_Law_law_377 rfl ?_
  refine x_if_ne (tgt := 394) d_Law_law_379 (by decide) (fun hc => ?_) (fun hc => ?_)
  · exact x_le (lv' := [some (.ref a0), some (.ref a1), some (.ref a2), some (.ref a3), some (.ref a4), some (.int x5), none, none, none]) (xw_le_s (xw_le_s (xw_le_s (xw_le_s (xw_le_s (xw_le_s (xw_le_n (xw_le_n (xw_le_n xw_le_e))))))))) (kt hc)
  · exact x_le (lv' := [some (.ref a0), some (.ref a1), some (.ref a2), some (.ref a3), some (.ref a4), some (.int x5), none, some (.int x7), none]) (xw_le_s (xw_le_s (xw_le_s (xw_le_s (xw_le_s (xw_le_s (xw_le_n (xw_le_s (xw_le_n xw_le_e))))))))) (kf hc)
theorem s_Law_law_382 {G : xw_G} {F L bc bs : Nat} {pr : Option Value → xw_A → Prop} {px : String → xw_A → Prop} {h : xw_A} {a0 : Nat} {a1 : Nat} {a2 : Nat} {a3 : Nat} {a4 : Nat} {x5 : Int32} {x7 : Int32} {n_a3 : Nat} {f_a3 : Nat → Int64} (e_a3 : h a3 = some (.inl (2, n_a3, .inr (.inl f_a3)))) (i_384 : vp_in 0 n_a3) (kt : (lg_cmp (f_a3 (0 : Int32).toNatClampNeg) x7.toInt64) = 0 → xw G m_Law_law F L bc bs pr px 394 [some (.ref a0), some (.ref a1), some (.ref a2), some (.ref a3), some (.ref a4), some (.int x5), none, none, none] [] h) (kf : ¬ (lg_cmp (f_a3 (0 : Int32).toNatClampNeg) x7.toInt64) = 0 → xw G m_Law_law F L bc bs pr px 392 [none, none, none, none, none, none, none, none, none] [] h) : xw G m_Law_law F L bc bs pr px 382 [some (.ref a0), some (.ref a1), some (.ref a2), some (.ref a3), some (.ref a4), some (.int x5), none, some (.int x7), none] [] h := by
  refine x_aload_n d_Law_law_382 rfl rfl ?_
  refine x_iconst (v := 0) d_Law_law_383 (by decide) ?_
  refine x_lald d_Law_law_384 e_a3 i_384 ?_
  refine x_iload d_Law_law_385 rfl ?_
  refine x_i2l d_Law_law_387 rfl ?_
  refine x_lcmp d_Law_law_388 ?_
  refine x_if_eq (tgt := 394) d_Law_law_389 (by decide) (fun hc => ?_) (fun hc => ?_)
  · exact x_le (lv' := [some (.ref a0), some (.ref a1), some (.ref a2), some (.ref a3), some (.ref a4), some (.int x5), none, none, none]) (xw_le_s (xw_le_s (xw_le_s (xw_le_s (xw_le_s (xw_le_s (xw_le_n (xw_le_n (xw_le_n xw_le_e))))))))) (kt hc)
  · exact x_le (lv' := [none, none, none, none, none, none, none, none, none]) (xw_le_n (xw_le_n (xw_le_n (xw_le_n (xw_le_n (xw_le_n (xw_le_n (xw_le_n (xw_le_n xw_le_e))))))))) (kf hc)
theorem s_Law_law_392 {G : xw_G} {F L bc bs : Nat} {pr : Option Value → xw_A → Prop} {px : String → xw_A → Prop} {h : xw_A}   (kr : pr (some (.int 0)) h) : xw G m_Law_law F L bc bs pr px 392 [none, none, none, none, none, none, none, none, none] [] h := by
  refine x_iconst (v := 0) d_Law_law_392 (by decide) ?_
  exact x_zret d_Law_law_393 rfl rfl kr
theorem s_Law_law_394 {G : xw_G} {F L bc bs : Nat} {pr : Option Value → xw_A → Prop} {px : String → xw_A → Prop} {h : xw_A} {a0 : Nat} {a1 : Nat} {a2 : Nat} {a3 : Nat} {a4 : Nat} {x5 : Int32}  (k : xw G m_Law_law F L bc bs pr px 1145 [some (.ref a0), some (.ref a1), some (.ref a2), some (.ref a3), some (.ref a4), some (.int x5), none, none, none] [] h) : xw G m_Law_law F L bc bs pr px 394 [some (.ref a0), some (.ref a1), some (.ref a2), some (.ref a3), some (.ref a4), some (.int x5), none, none, none] [] h := by
  refine x_goto (tgt := 1145) d_Law_law_394 (by decide) ?_
  exact k
theorem s_Law_law_397 {G : xw_G} {F L bc bs : Nat} {pr : Option Value → xw_A → Prop} {px : String → xw_A → Prop} {h : xw_A} {a0 : Nat} {a1 : Nat} {a2 : Nat} {a3 : Nat} {a4 : Nat} {x5 : Int32} {N : Nat} {xs : Nat → Int32} (hX : va_X a0 N xs G.2.2.1 G.2.2.1.heap) (i_403 : vp_in (x5 + 1) N) (k : xw G m_Law_law F L bc bs pr px 405 [some (.ref a0), some (.ref a1), some (.ref a2), some (.ref a3), some (.ref a4), some (.int x5), none, none, none] [.ref a3, .int (xs (x5 + 1).toNatClampNeg), .ref a1] h) : xw G m_Law_law F L bc bs pr px 397 [some (.ref a0), some (.ref a1), some (.ref a2), some (.ref a3), some (.ref a4), some (.int x5), none, none, none] [] h := by
  refine x_aload_n d_Law_law_397 rfl rfl ?_
  refine x_aload_n d_Law_law_398 rfl rfl ?_
  refine x_iload d_Law_law_399 rfl ?_
  refine x_iconst (v := 1) d_Law_law_401 (by decide) ?_
  refine x_iadd d_Law_law_402 ?_
  refine x_sld hX d_Law_law_403 i_403 ?_
  refine x_aload_n d_Law_law_404 rfl rfl ?_
  exact k
theorem s_Law_law_408 {G : xw_G} {F L bc bs : Nat} {pr : Option Value → xw_A → Prop} {px : String → xw_A → Prop} {h : xw_A} {a0 : Nat} {a1 : Nat} {a2 : Nat} {a3 : Nat} {a4 : Nat} {x5 : Int32} {y0 : Int32} {N : Nat} {xs : Nat → Int32} (hX : va_X a0 N xs G.2.2.1 G.2.2.1.heap) (i_416 : vp_in (x5 + 1) N) (k : xw G m_Law_law F L bc bs pr px 417 [some (.ref a0), some (.ref a1), some (.ref a2), some (.ref a3), some (.ref a4), some (.int x5), some (.int y0), none, none] [.int (xs (x5 + 1).toNatClampNeg), .ref a2] h) : xw G m_Law_law F L bc bs pr px 408 [some (.ref a0), some (.ref a1), some (.ref a2), some (.ref a3), some (.ref a4), some (.int x5), none, none, none] [.int y0] h := by
  refine x_istore d_Law_law_408 (by decide) rfl ?_
  show xw G m_Law_law F L bc bs pr px 410 [some (.ref a0), some (.ref a1), some (.ref a2), some (.ref a3), some (.ref a4), some (.int x5), some (.int y0), none, none] [] h
  refine x_aload_n d_Law_law_410 rfl rfl ?_
  refine x_aload_n d_Law_law_411 rfl rfl ?_
  refine x_iload d_Law_law_412 rfl ?_
  refine x_iconst (v := 1) d_Law_law_414 (by decide) ?_
  refine x_iadd d_Law_law_415 ?_
  refine x_sld hX d_Law_law_416 i_416 ?_
  exact k
theorem s_Law_law_420 {G : xw_G} {F L bc bs : Nat} {pr : Option Value → xw_A → Prop} {px : String → xw_A → Prop} {h : xw_A} {a0 : Nat} {a1 : Nat} {a2 : Nat} {a3 : Nat} {a4 : Nat} {x5 : Int32} {x6 : Int32} {y0 : Int32}  (k : xw G m_Law_law F L bc bs pr px 423 [some (.ref a0), some (.ref a1), some (.ref a2), some (.ref a3), some (.ref a4), some (.int x5), some (.int x6), some (.int y0), none] [.ref a2] h) : xw G m_Law_law F L bc bs pr px 420 [some (.ref a0), some (.ref a1), some (.ref a2), some (.ref a3), some (.ref a4), some (.int x5), some (.int x6), none, none] [.int y0] h := by
  refine x_istore d_Law_law_420 (by decide) rfl ?_
  show xw G m_Law_law F L bc bs pr px 422 [some (.ref a0), some (.ref a1), some (.ref a2), some (.ref a3), some (.ref a4), some (.int x5), some (.int x6), some (.int y0), none] [] h
  refine x_aload_n d_Law_law_422 rfl rfl ?_
  exact k
theorem s_Law_law_426 {G : xw_G} {F L bc bs : Nat} {pr : Option Value → xw_A → Prop} {px : String → xw_A → Prop} {h : xw_A} {a0 : Nat} {a1 : Nat} {a2 : Nat} {a3 : Nat} {a4 : Nat} {x5 : Int32} {x6 : Int32} {x7 : Int32} {y0 : Int32}  (kt : y0 = x6 → xw G m_Law_law F L bc bs pr px 433 [some (.ref a0), some (.ref a1), some (.ref a2), some (.ref a3), some (.ref a4), some (.int x5), some (.int x6), some (.int x7), none] [] h) (kf : ¬ y0 = x6 → xw G m_Law_law F L bc bs pr px 431 [none, none, none, none, none, none, none, none, none] [] h) : xw G m_Law_law F L bc bs pr px 426 [some (.ref a0), some (.ref a1), some (.ref a2), some (.ref a3), some (.ref a4), some (.int x5), some (.int x6), some (.int x7), none] [.int y0] h := by
  refine x_iload d_Law_law_426 rfl ?_
  refine x_icmp_eq (tgt := 433) d_Law_law_428 (by decide) (fun hc => ?_) (fun hc => ?_)
  · exact kt hc
  · exact x_le (lv' := [none, none, none, none, none, none, none, none, none]) (xw_le_n (xw_le_n (xw_le_n (xw_le_n (xw_le_n (xw_le_n (xw_le_n (xw_le_n (xw_le_n xw_le_e))))))))) (kf hc)
theorem s_Law_law_431 {G : xw_G} {F L bc bs : Nat} {pr : Option Value → xw_A → Prop} {px : String → xw_A → Prop} {h : xw_A}   (kr : pr (some (.int 0)) h) : xw G m_Law_law F L bc bs pr px 431 [none, none, none, none, none, none, none, none, none] [] h := by
  refine x_iconst (v := 0) d_Law_law_431 (by decide) ?_
  exact x_zret d_Law_law_432 rfl rfl kr
theorem s_Law_law_433 {G : xw_G} {F L bc bs : Nat} {pr : Option Value → xw_A → Prop} {px : String → xw_A → Prop} {h : xw_A} {a0 : Nat} {a1 : Nat} {a2 : Nat} {a3 : Nat} {a4 : Nat} {x5 : Int32} {x6 : Int32} {x7 : Int32}  (kt : ¬ x6 = 0 → xw G m_Law_law F L bc bs pr px 450 [some (.ref a0), some (.ref a1), some (.ref a2), some (.ref a3), some (.ref a4), some (.int x5), none, none, none] [] h) (kf : x6 = 0 → xw G m_Law_law F L bc bs pr px 438 [some (.ref a0), some (.ref a1), some (.ref a2), some (.ref a3), some (.ref a4), some (.int x5), none, some (.int x7), none] [] h) : xw G m_Law_law F L bc bs pr px 433 [some (.ref a0), some (.ref a1), some (.ref a2), some (.ref a3), some (.ref a4), some (.int x5), some (.int x6), some (.int x7), none] [] h := by
  refine x_iload d_Law_law_433 rfl ?_
  refine x_if_ne (tgt := 450) d_Law_law_435 (by decide) (fun hc => ?_) (fun hc => ?_)
  · exact x_le (lv' := [some (.ref a0), some (.ref a1), some (.ref a2), some (.ref a3), some (.ref a4), some (.int x5), none, none, none]) (xw_le_s (xw_le_s (xw_le_s (xw_le_s (xw_le_s (xw_le_s (xw_le_n (xw_le_n (xw_le_n xw_le_e))))))))) (kt hc)
  · exact x_le (lv' := [some (.ref a0), some (.ref a1), some (.ref a2), some (.ref a3), some (.ref a4), some (.int x5), none, some (.int x7), none]) (xw_le_s (xw_le_s (xw_le_s (xw_le_s (xw_le_s (xw_le_s (xw_le_n (xw_le_s (xw_le_n xw_le_e))))))))) (kf hc)
theorem s_Law_law_438 {G : xw_G} {F L bc bs : Nat} {pr : Option Value → xw_A → Prop} {px : String → xw_A → Prop} {h : xw_A} {a0 : Nat} {a1 : Nat} {a2 : Nat} {a3 : Nat} {a4 : Nat} {x5 : Int32} {x7 : Int32} {n_a3 : Nat} {f_a3 : Nat → Int64} (e_a3 : h a3 = some (.inl (2, n_a3, .inr (.inl f_a3)))) (i_440 : vp_in 0 n_a3) (kt : (lg_cmp (f_a3 (0 : Int32).toNatClampNeg) x7.toInt64) = 0 → xw G m_Law_law F L bc bs pr px 450 [some (.ref a0), some (.ref a1), some (.ref a2), some (.ref a3), some (.ref a4), some (.int x5), none, none, none] [] h) (kf : ¬ (lg_cmp (f_a3 (0 : Int32).toNatClampNeg) x7.toInt64) = 0 → xw G m_Law_law F L bc bs pr px 448 [none, none, none, none, none, none, none, none, none] [] h) : xw G m_Law_law F L bc bs pr px 438 [some (.ref a0), some (.ref a1), some (.ref a2), some (.ref a3), some (.ref a4), some (.int x5), none, some (.int x7), none] [] h := by
  refine x_aload_n d_Law_law_438 rfl rfl ?_
  refine x_iconst (v := 0) d_Law_law_439 (by decide) ?_
  refine x_lald d_Law_law_440 e_a3 i_440 ?_
  refine x_iload d_Law_law_441 rfl ?_
  refine x_i2l d_Law_law_443 rfl ?_
  refine x_lcmp d_Law_law_444 ?_
  refine x_if_eq (tgt := 450) d_Law_law_445 (by decide) (fun hc => ?_) (fun hc => ?_)
  · exact x_le (lv' := [some (.ref a0), some (.ref a1), some (.ref a2), some (.ref a3), some (.ref a4), some (.int x5), none, none, none]) (xw_le_s (xw_le_s (xw_le_s (xw_le_s (xw_le_s (xw_le_s (xw_le_n (xw_le_n (xw_le_n xw_le_e))))))))) (kt hc)
  · exact x_le (lv' := [none, none, none, none, none, none, none, none, none]) (xw_le_n (xw_le_n (xw_le_n (xw_le_n (xw_le_n (xw_le_n (xw_le_n (xw_le_n (xw_le_n xw_le_e))))))))) (kf hc)
theorem s_Law_law_448 {G : xw_G} {F L bc bs : Nat} {pr : Option Value → xw_A → Prop} {px : String → xw_A → Prop} {h : xw_A}   (kr : pr (some (.int 0)) h) : xw G m_Law_law F L bc bs pr px 448 [none, none, none, none, none, none, none, none, none] [] h := by
  refine x_iconst (v := 0) d_Law_law_448 (by decide) ?_
  exact x_zret d_Law_law_449 rfl rfl kr
theorem s_Law_law_450 {G : xw_G} {F L bc bs : Nat} {pr : Option Value → xw_A → Prop} {px : String → xw_A → Prop} {h : xw_A} {a0 : Nat} {a1 : Nat} {a2 : Nat} {a3 : Nat} {a4 : Nat} {x5 : Int32}  (k : xw G m_Law_law F L bc bs pr px 1145 [some (.ref a0), some (.ref a1), some (.ref a2), some (.ref a3), some (.ref a4), some (.int x5), none, none, none] [] h) : xw G m_Law_law F L bc bs pr px 450 [some (.ref a0), some (.ref a1), some (.ref a2), some (.ref a3), some (.ref a4), some (.int x5), none, none, none] [] h := by
  refine x_goto (tgt := 1145) d_Law_law_450 (by decide) ?_
  exact k
theorem s_Law_law_453 {G : xw_G} {F L bc bs : Nat} {pr : Option Value → xw_A → Prop} {px : String → xw_A → Prop} {h : xw_A} {a0 : Nat} {a1 : Nat} {a2 : Nat} {a3 : Nat} {a4 : Nat} {x5 : Int32}  (k : xw G m_Law_law F L bc bs pr px 454 [some (.ref a0), some (.ref a1), some (.ref a2), some (.ref a3), some (.ref a4), some (.int x5), none, none, none] [.ref a1] h) : xw G m_Law_law F L bc bs pr px 453 [some (.ref a0), some (.ref a1), some (.ref a2), some (.ref a3), some (.ref a4), some (.int x5), none, none, none] [] h := by
  refine x_aload_n d_Law_law_453 rfl rfl ?_
  exact k
theorem s_Law_law_457 {G : xw_G} {F L bc bs : Nat} {pr : Option Value → xw_A → Prop} {px : String → xw_A → Prop} {h : xw_A} {a0 : Nat} {a1 : Nat} {a2 : Nat} {a3 : Nat} {a4 : Nat} {x5 : Int32} {y0 : Int32}  (k : xw G m_Law_law F L bc bs pr px 460 [some (.ref a0), some (.ref a1), some (.ref a2), some (.ref a3), some (.ref a4), some (.int x5), some (.int y0), none, none] [.ref a2] h) : xw G m_Law_law F L bc bs pr px 457 [some (.ref a0), some (.ref a1), some (.ref a2), some (.ref a3), some (.ref a4), some (.int x5), none, none, none] [.int y0] h := by
  refine x_istore d_Law_law_457 (by decide) rfl ?_
  show xw G m_Law_law F L bc bs pr px 459 [some (.ref a0), some (.ref a1), some (.ref a2), some (.ref a3), some (.ref a4), some (.int x5), some (.int y0), none, none] [] h
  refine x_aload_n d_Law_law_459 rfl rfl ?_
  exact k
theorem s_Law_law_463 {G : xw_G} {F L bc bs : Nat} {pr : Option Value → xw_A → Prop} {px : String → xw_A → Prop} {h : xw_A} {a0 : Nat} {a1 : Nat} {a2 : Nat} {a3 : Nat} {a4 : Nat} {x5 : Int32} {x6 : Int32}  (k : xw G m_Law_law F L bc bs pr px 464 [some (.ref a0), some (.ref a1), some (.ref a2), some (.ref a3), some (.ref a4), some (.int x5), some (.int x6), none, none] [.ref a2] h) : xw G m_Law_law F L bc bs pr px 463 [some (.ref a0), some (.ref a1), some (.ref a2), some (.ref a3), some (.ref a4), some (.int x5), some (.int x6), none, none] [] h := by
  refine x_aload_n d_Law_law_463 rfl rfl ?_
  exact k
theorem s_Law_law_467 {G : xw_G} {F L bc bs : Nat} {pr : Option Value → xw_A → Prop} {px : String → xw_A → Prop} {h : xw_A} {a0 : Nat} {a1 : Nat} {a2 : Nat} {a3 : Nat} {a4 : Nat} {x5 : Int32} {x6 : Int32} {y0 : Int32}  (kt : y0 = x6 → xw G m_Law_law F L bc bs pr px 474 [some (.ref a0), some (.ref a1), some (.ref a2), some (.ref a3), some (.ref a4), some (.int x5), none, none, none] [] h) (kf : ¬ y0 = x6 → xw G m_Law_law F L bc bs pr px 472 [none, none, none, none, none, none, none, none, none] [] h) : xw G m_Law_law F L bc bs pr px 467 [some (.ref a0), some (.ref a1), some (.ref a2), some (.ref a3), some (.ref a4), some (.int x5), some (.int x6), none, none] [.int y0] h := by
  refine x_iload d_Law_law_467 rfl ?_
  refine x_icmp_eq (tgt := 474) d_Law_law_469 (by decide) (fun hc => ?_) (fun hc => ?_)
  · exact x_le (lv' := [some (.ref a0), some (.ref a1), some (.ref a2), some (.ref a3), some (.ref a4), some (.int x5), none, none, none]) (xw_le_s (xw_le_s (xw_le_s (xw_le_s (xw_le_s (xw_le_s (xw_le_n (xw_le_n (xw_le_n xw_le_e))))))))) (kt hc)
  · exact x_le (lv' := [none, none, none, none, none, none, none, none, none]) (xw_le_n (xw_le_n (xw_le_n (xw_le_n (xw_le_n (xw_le_n (xw_le_n (xw_le_n (xw_le_n xw_le_e))))))))) (kf hc)
theorem s_Law_law_472 {G : xw_G} {F L bc bs : Nat} {pr : Option Value → xw_A → Prop} {px : String → xw_A → Prop} {h : xw_A}   (kr : pr (some (.int 0)) h) : xw G m_Law_law F L bc bs pr px 472 [none, none, none, none, none, none, none, none, none] [] h := by
  refine x_iconst (v := 0) d_Law_law_472 (by decide) ?_
  exact x_zret d_Law_law_473 rfl rfl kr
theorem s_Law_law_474 {G : xw_G} {F L bc bs : Nat} {pr : Option Value → xw_A → Prop} {px : String → xw_A → Prop} {h : xw_A} {a0 : Nat} {a1 : Nat} {a2 : Nat} {a3 : Nat} {a4 : Nat} {x5 : Int32}  (k : xw G m_Law_law F L bc bs pr px 1145 [some (.ref a0), some (.ref a1), some (.ref a2), some (.ref a3), some (.ref a4), some (.int x5), none, none, none] [] h) : xw G m_Law_law F L bc bs pr px 474 [some (.ref a0), some (.ref a1), some (.ref a2), some (.ref a3), some (.ref a4), some (.int x5), none, none, none] [] h := by
  refine x_goto (tgt := 1145) d_Law_law_474 (by decide) ?_
  exact k
theorem s_Law_law_477 {G : xw_G} {F L bc bs : Nat} {pr : Option Value → xw_A → Prop} {px : String → xw_A → Prop} {h : xw_A} {a0 : Nat} {a1 : Nat} {a2 : Nat} {a3 : Nat} {a4 : Nat} {x5 : Int32}  (k : xw G m_Law_law F L bc bs pr px 479 [some (.ref a0), some (.ref a1), some (.ref a2), some (.ref a3), some (.ref a4), some (.int x5), none, none, none] [.ref a3, .ref a1] h) : xw G m_Law_law F L bc bs pr px 477 [some (.ref a0), some (.ref a1), some (.ref a2), some (.ref a3), some (.ref a4), some (.int x5), none, none, none] [] h := by
  refine x_aload_n d_Law_law_477 rfl rfl ?_
  refine x_aload_n d_Law_law_478 rfl rfl ?_
  exact k
theorem s_Law_law_482 {G : xw_G} {F L bc bs : Nat} {pr : Option Value → xw_A → Prop} {px : String → xw_A → Prop} {h : xw_A} {a0 : Nat} {a1 : Nat} {a2 : Nat} {a3 : Nat} {a4 : Nat} {x5 : Int32} {y0 : Int32}  (k : xw G m_Law_law F L bc bs pr px 485 [some (.ref a0), some (.ref a1), some (.ref a2), some (.ref a3), some (.ref a4), some (.int x5), some (.int y0), none, none] [.ref a2] h) : xw G m_Law_law F L bc bs pr px 482 [some (.ref a0), some (.ref a1), some (.ref a2), some (.ref a3), some (.ref a4), some (.int x5), none, none, none] [.int y0] h := by
  refine x_istore d_Law_law_482 (by decide) rfl ?_
  show xw G m_Law_law F L bc bs pr px 484 [some (.ref a0), some (.ref a1), some (.ref a2), some (.ref a3), some (.ref a4), some (.int x5), some (.int y0), none, none] [] h
  refine x_aload_n d_Law_law_484 rfl rfl ?_
  exact k
theorem s_Law_law_488 {G : xw_G} {F L bc bs : Nat} {pr : Option Value → xw_A → Prop} {px : String → xw_A → Prop} {h : xw_A} {a0 : Nat} {a1 : Nat} {a2 : Nat} {a3 : Nat} {a4 : Nat} {x5 : Int32} {x6 : Int32} {y0 : Int32}  (k : xw G m_Law_law F L bc bs pr px 491 [some (.ref a0), some (.ref a1), some (.ref a2), some (.ref a3), some (.ref a4), some (.int x5), some (.int x6), some (.int y0), none] [.ref a2] h) : xw G m_Law_law F L bc bs pr px 488 [some (.ref a0), some (.ref a1), some (.ref a2), some (.ref a3), some (.ref a4), some (.int x5), some (.int x6), none, none] [.int y0] h := by
  refine x_istore d_Law_law_488 (by decide) rfl ?_
  show xw G m_Law_law F L bc bs pr px 490 [some (.ref a0), some (.ref a1), some (.ref a2), some (.ref a3), some (.ref a4), some (.int x5), some (.int x6), some (.int y0), none] [] h
  refine x_aload_n d_Law_law_490 rfl rfl ?_
  exact k
theorem s_Law_law_494 {G : xw_G} {F L bc bs : Nat} {pr : Option Value → xw_A → Prop} {px : String → xw_A → Prop} {h : xw_A} {a0 : Nat} {a1 : Nat} {a2 : Nat} {a3 : Nat} {a4 : Nat} {x5 : Int32} {x6 : Int32} {x7 : Int32} {y0 : Int32}  (kt : y0 = x6 → xw G m_Law_law F L bc bs pr px 501 [some (.ref a0), some (.ref a1), some (.ref a2), some (.ref a3), some (.ref a4), some (.int x5), some (.int x6), some (.int x7), none] [] h) (kf : ¬ y0 = x6 → xw G m_Law_law F L bc bs pr px 499 [none, none, none, none, none, none, none, none, none] [] h) : xw G m_Law_law F L bc bs pr px 494 [some (.ref a0), some (.ref a1), some (.ref a2), some (.ref a3), some (.ref a4), some (.int x5), some (.int x6), some (.int x7), none] [.int y0] h := by
  refine x_iload d_Law_law_494 rfl ?_
  refine x_icmp_eq (tgt := 501) d_Law_law_496 (by decide) (fun hc => ?_) (fun hc => ?_)
  · exact kt hc
  · exact x_le (lv' := [none, none, none, none, none, none, none, none, none]) (xw_le_n (xw_le_n (xw_le_n (xw_le_n (xw_le_n (xw_le_n (xw_le_n (xw_le_n (xw_le_n xw_le_e))))))))) (kf hc)
theorem s_Law_law_499 {G : xw_G} {F L bc bs : Nat} {pr : Option Value → xw_A → Prop} {px : String → xw_A → Prop} {h : xw_A}   (kr : pr (some (.int 0)) h) : xw G m_Law_law F L bc bs pr px 499 [none, none, none, none, none, none, none, none, none] [] h := by
  refine x_iconst (v := 0) d_Law_law_499 (by decide) ?_
  exact x_zret d_Law_law_500 rfl rfl kr
theorem s_Law_law_501 {G : xw_G} {F L bc bs : Nat} {pr : Option Value → xw_A → Prop} {px : String → xw_A → Prop} {h : xw_A} {a0 : Nat} {a1 : Nat} {a2 : Nat} {a3 : Nat} {a4 : Nat} {x5 : Int32} {x6 : Int32} {x7 : Int32}  (kt : ¬ x6 = 0 → xw G m_Law_law F L bc bs pr px 518 [some (.ref a0), some (.ref a1), some (.ref a2), some (.ref a3), some (.ref a4), some (.int x5), none, none, none] [] h) (kf : x6 = 0 → xw G m_Law_law F L bc bs pr px 506 [some (.ref a0), some (.ref a1), some (.ref a2), some (.ref a3), some (.ref a4), some (.int x5), none, some (.int x7), none] [] h) : xw G m_Law_law F L bc bs pr px 501 [some (.ref a0), some (.ref a1), some (.ref a2), some (.ref a3), some (.ref a4), some (.int x5), some (.int x6), some (.int x7), none] [] h := by
  refine x_iload d_Law_law_501 rfl ?_
  refine x_if_ne (tgt := 518) d_Law_law_503 (by decide) (fun hc => ?_) (fun hc => ?_)
  · exact x_le (lv' := [some (.ref a0), some (.ref a1), some (.ref a2), some (.ref a3), some (.ref a4), some (.int x5), none, none, none]) (xw_le_s (xw_le_s (xw_le_s (xw_le_s (xw_le_s (xw_le_s (xw_le_n (xw_le_n (xw_le_n xw_le_e))))))))) (kt hc)
  · exact x_le (lv' := [some (.ref a0), some (.ref a1), some (.ref a2), some (.ref a3), some (.ref a4), some (.int x5), none, some (.int x7), none]) (xw_le_s (xw_le_s (xw_le_s (xw_le_s (xw_le_s (xw_le_s (xw_le_n (xw_le_s (xw_le_n xw_le_e))))))))) (kf hc)
theorem s_Law_law_506 {G : xw_G} {F L bc bs : Nat} {pr : Option Value → xw_A → Prop} {px : String → xw_A → Prop} {h : xw_A} {a0 : Nat} {a1 : Nat} {a2 : Nat} {a3 : Nat} {a4 : Nat} {x5 : Int32} {x7 : Int32} {n_a3 : Nat} {f_a3 : Nat → Int64} (e_a3 : h a3 = some (.inl (2, n_a3, .inr (.inl f_a3)))) (i_508 : vp_in 0 n_a3) (kt : (lg_cmp (f_a3 (0 : Int32).toNatClampNeg) x7.toInt64) = 0 → xw G m_Law_law F L bc bs pr px 518 [some (.ref a0), some (.ref a1), some (.ref a2), some (.ref a3), some (.ref a4), some (.int x5), none, none, none] [] h) (kf : ¬ (lg_cmp (f_a3 (0 : Int32).toNatClampNeg) x7.toInt64) = 0 → xw G m_Law_law F L bc bs pr px 516 [none, none, none, none, none, none, none, none, none] [] h) : xw G m_Law_law F L bc bs pr px 506 [some (.ref a0), some (.ref a1), some (.ref a2), some (.ref a3), some (.ref a4), some (.int x5), none, some (.int x7), none] [] h := by
  refine x_aload_n d_Law_law_506 rfl rfl ?_
  refine x_iconst (v := 0) d_Law_law_507 (by decide) ?_
  refine x_lald d_Law_law_508 e_a3 i_508 ?_
  refine x_iload d_Law_law_509 rfl ?_
  refine x_i2l d_Law_law_511 rfl ?_
  refine x_lcmp d_Law_law_512 ?_
  refine x_if_eq (tgt := 518) d_Law_law_513 (by decide) (fun hc => ?_) (fun hc => ?_)
  · exact x_le (lv' := [some (.ref a0), some (.ref a1), some (.ref a2), some (.ref a3), some (.ref a4), some (.int x5), none, none, none]) (xw_le_s (xw_le_s (xw_le_s (xw_le_s (xw_le_s (xw_le_s (xw_le_n (xw_le_n (xw_le_n xw_le_e))))))))) (kt hc)
  · exact x_le (lv' := [none, none, none, none, none, none, none, none, none]) (xw_le_n (xw_le_n (xw_le_n (xw_le_n (xw_le_n (xw_le_n (xw_le_n (xw_le_n (xw_le_n xw_le_e))))))))) (kf hc)
theorem s_Law_law_516 {G : xw_G} {F L bc bs : Nat} {pr : Option Value → xw_A → Prop} {px : String → xw_A → Prop} {h : xw_A}   (kr : pr (some (.int 0)) h) : xw G m_Law_law F L bc bs pr px 516 [none, none, none, none, none, none, none, none, none] [] h := by
  refine x_iconst (v := 0) d_Law_law_516 (by decide) ?_
  exact x_zret d_Law_law_517 rfl rfl kr
theorem s_Law_law_518 {G : xw_G} {F L bc bs : Nat} {pr : Option Value → xw_A → Prop} {px : String → xw_A → Prop} {h : xw_A} {a0 : Nat} {a1 : Nat} {a2 : Nat} {a3 : Nat} {a4 : Nat} {x5 : Int32}  (k : xw G m_Law_law F L bc bs pr px 1145 [some (.ref a0), some (.ref a1), some (.ref a2), some (.ref a3), some (.ref a4), some (.int x5), none, none, none] [] h) : xw G m_Law_law F L bc bs pr px 518 [some (.ref a0), some (.ref a1), some (.ref a2), some (.ref a3), some (.ref a4), some (.int x5), none, none, none] [] h := by
  refine x_goto (tgt := 1145) d_Law_law_518 (by decide) ?_
  exact k
theorem s_Law_law_521 {G : xw_G} {F L bc bs : Nat} {pr : Option Value → xw_A → Prop} {px : String → xw_A → Prop} {h : xw_A} {a0 : Nat} {a1 : Nat} {a2 : Nat} {a3 : Nat} {a4 : Nat} {x5 : Int32}  (k : xw G m_Law_law F L bc bs pr px 523 [some (.ref a0), some (.ref a1), some (.ref a2), some (.ref a3), some (.ref a4), some (.int x5), none, none, none] [.ref a3, .ref a1] h) : xw G m_Law_law F L bc bs pr px 521 [some (.ref a0), some (.ref a1), some (.ref a2), some (.ref a3), some (.ref a4), some (.int x5), none, none, none] [] h := by
  refine x_aload_n d_Law_law_521 rfl rfl ?_
  refine x_aload_n d_Law_law_522 rfl rfl ?_
  exact k
theorem s_Law_law_526 {G : xw_G} {F L bc bs : Nat} {pr : Option Value → xw_A → Prop} {px : String → xw_A → Prop} {h : xw_A} {a0 : Nat} {a1 : Nat} {a2 : Nat} {a3 : Nat} {a4 : Nat} {x5 : Int32} {y0 : Int32}  (k : xw G m_Law_law F L bc bs pr px 529 [some (.ref a0), some (.ref a1), some (.ref a2), some (.ref a3), some (.ref a4), some (.int x5), some (.int y0), none, none] [.ref a2] h) : xw G m_Law_law F L bc bs pr px 526 [some (.ref a0), some (.ref a1), some (.ref a2), some (.ref a3), some (.ref a4), some (.int x5), none, none, none] [.int y0] h := by
  refine x_istore d_Law_law_526 (by decide) rfl ?_
  show xw G m_Law_law F L bc bs pr px 528 [some (.ref a0), some (.ref a1), some (.ref a2), some (.ref a3), some (.ref a4), some (.int x5), some (.int y0), none, none] [] h
  refine x_aload_n d_Law_law_528 rfl rfl ?_
  exact k
theorem s_Law_law_532 {G : xw_G} {F L bc bs : Nat} {pr : Option Value → xw_A → Prop} {px : String → xw_A → Prop} {h : xw_A} {a0 : Nat} {a1 : Nat} {a2 : Nat} {a3 : Nat} {a4 : Nat} {x5 : Int32} {x6 : Int32} {y0 : Int32}  (k : xw G m_Law_law F L bc bs pr px 535 [some (.ref a0), some (.ref a1), some (.ref a2), some (.ref a3), some (.ref a4), some (.int x5), some (.int x6), some (.int y0), none] [.ref a2] h) : xw G m_Law_law F L bc bs pr px 532 [some (.ref a0), some (.ref a1), some (.ref a2), some (.ref a3), some (.ref a4), some (.int x5), some (.int x6), none, none] [.int y0] h := by
  refine x_istore d_Law_law_532 (by decide) rfl ?_
  show xw G m_Law_law F L bc bs pr px 534 [some (.ref a0), some (.ref a1), some (.ref a2), some (.ref a3), some (.ref a4), some (.int x5), some (.int x6), some (.int y0), none] [] h
  refine x_aload_n d_Law_law_534 rfl rfl ?_
  exact k
theorem s_Law_law_538 {G : xw_G} {F L bc bs : Nat} {pr : Option Value → xw_A → Prop} {px : String → xw_A → Prop} {h : xw_A} {a0 : Nat} {a1 : Nat} {a2 : Nat} {a3 : Nat} {a4 : Nat} {x5 : Int32} {x6 : Int32} {x7 : Int32} {y0 : Int32}  (kt : y0 = x6 → xw G m_Law_law F L bc bs pr px 545 [some (.ref a0), some (.ref a1), some (.ref a2), some (.ref a3), some (.ref a4), some (.int x5), some (.int x6), some (.int x7), none] [] h) (kf : ¬ y0 = x6 → xw G m_Law_law F L bc bs pr px 543 [none, none, none, none, none, none, none, none, none] [] h) : xw G m_Law_law F L bc bs pr px 538 [some (.ref a0), some (.ref a1), some (.ref a2), some (.ref a3), some (.ref a4), some (.int x5), some (.int x6), some (.int x7), none] [.int y0] h := by
  refine x_iload d_Law_law_538 rfl ?_
  refine x_icmp_eq (tgt := 545) d_Law_law_540 (by decide) (fun hc => ?_) (fun hc => ?_)
  · exact kt hc
  · exact x_le (lv' := [none, none, none, none, none, none, none, none, none]) (xw_le_n (xw_le_n (xw_le_n (xw_le_n (xw_le_n (xw_le_n (xw_le_n (xw_le_n (xw_le_n xw_le_e))))))))) (kf hc)
theorem s_Law_law_543 {G : xw_G} {F L bc bs : Nat} {pr : Option Value → xw_A → Prop} {px : String → xw_A → Prop} {h : xw_A}   (kr : pr (some (.int 0)) h) : xw G m_Law_law F L bc bs pr px 543 [none, none, none, none, none, none, none, none, none] [] h := by
  refine x_iconst (v := 0) d_Law_law_543 (by decide) ?_
  exact x_zret d_Law_law_544 rfl rfl kr
theorem s_Law_law_545 {G : xw_G} {F L bc bs : Nat} {pr : Option Value → xw_A → Prop} {px : String → xw_A → Prop} {h : xw_A} {a0 : Nat} {a1 : Nat} {a2 : Nat} {a3 : Nat} {a4 : Nat} {x5 : Int32} {x6 : Int32} {x7 : Int32}  (kt : ¬ x6 = 0 → xw G m_Law_law F L bc bs pr px 562 [some (.ref a0), some (.ref a1), some (.ref a2), some (.ref a3), some (.ref a4), some (.int x5), none, none, none] [] h) (kf : x6 = 0 → xw G m_Law_law F L bc bs pr px 550 [some (.ref a0), some (.ref a1), some (.ref a2), some (.ref a3), some (.ref a4), some (.int x5), none, some (.int x7), none] [] h) : xw G m_Law_law F L bc bs pr px 545 [some (.ref a0), some (.ref a1), some (.ref a2), some (.ref a3), some (.ref a4), some (.int x5), some (.int x6), some (.int x7), none] [] h := by
  refine x_iload d_Law_law_545 rfl ?_
  refine x_if_ne (tgt := 562) d_Law_law_547 (by decide) (fun hc => ?_) (fun hc => ?_)
  · exact x_le (lv' := [some (.ref a0), some (.ref a1), some (.ref a2), some (.ref a3), some (.ref a4), some (.int x5), none, none, none]) (xw_le_s (xw_le_s (xw_le_s (xw_le_s (xw_le_s (xw_le_s (xw_le_n (xw_le_n (xw_le_n xw_le_e))))))))) (kt hc)
  · exact x_le (lv' := [some (.ref a0), some (.ref a1), some (.ref a2), some (.ref a3), some (.ref a4), some (.int x5), none, some (.int x7), none]) (xw_le_s (xw_le_s (xw_le_s (xw_le_s (xw_le_s (xw_le_s (xw_le_n (xw_le_s (xw_le_n xw_le_e))))))))) (kf hc)
theorem s_Law_law_550 {G : xw_G} {F L bc bs : Nat} {pr : Option Value → xw_A → Prop} {px : String → xw_A → Prop} {h : xw_A} {a0 : Nat} {a1 : Nat} {a2 : Nat} {a3 : Nat} {a4 : Nat} {x5 : Int32} {x7 : Int32} {n_a3 : Nat} {f_a3 : Nat → Int64} (e_a3 : h a3 = some (.inl (2, n_a3, .inr (.inl f_a3)))) (i_552 : vp_in 0 n_a3) (kt : (lg_cmp (f_a3 (0 : Int32).toNatClampNeg) x7.toInt64) = 0 → xw G m_Law_law F L bc bs pr px 562 [some (.ref a0), some (.ref a1), some (.ref a2), some (.ref a3), some (.ref a4), some (.int x5), none, none, none] [] h) (kf : ¬ (lg_cmp (f_a3 (0 : Int32).toNatClampNeg) x7.toInt64) = 0 → xw G m_Law_law F L bc bs pr px 560 [none, none, none, none, none, none, none, none, none] [] h) : xw G m_Law_law F L bc bs pr px 550 [some (.ref a0), some (.ref a1), some (.ref a2), some (.ref a3), some (.ref a4), some (.int x5), none, some (.int x7), none] [] h := by
  refine x_aload_n d_Law_law_550 rfl rfl ?_
  refine x_iconst (v := 0) d_Law_law_551 (by decide) ?_
  refine x_lald d_Law_law_552 e_a3 i_552 ?_
  refine x_iload d_Law_law_553 rfl ?_
  refine x_i2l d_Law_law_555 rfl ?_
  refine x_lcmp d_Law_law_556 ?_
  refine x_if_eq (tgt := 562) d_Law_law_557 (by decide) (fun hc => ?_) (fun hc => ?_)
  · exact x_le (lv' := [some (.ref a0), some (.ref a1), some (.ref a2), some (.ref a3), some (.ref a4), some (.int x5), none, none, none]) (xw_le_s (xw_le_s (xw_le_s (xw_le_s (xw_le_s (xw_le_s (xw_le_n (xw_le_n (xw_le_n xw_le_e))))))))) (kt hc)
  · exact x_le (lv' := [none, none, none, none, none, none, none, none, none]) (xw_le_n (xw_le_n (xw_le_n (xw_le_n (xw_le_n (xw_le_n (xw_le_n (xw_le_n (xw_le_n xw_le_e))))))))) (kf hc)
theorem s_Law_law_560 {G : xw_G} {F L bc bs : Nat} {pr : Option Value → xw_A → Prop} {px : String → xw_A → Prop} {h : xw_A}   (kr : pr (some (.int 0)) h) : xw G m_Law_law F L bc bs pr px 560 [none, none, none, none, none, none, none, none, none] [] h := by
  refine x_iconst (v := 0) d_Law_law_560 (by decide) ?_
  exact x_zret d_Law_law_561 rfl rfl kr
theorem s_Law_law_562 {G : xw_G} {F L bc bs : Nat} {pr : Option Value → xw_A → Prop} {px : String → xw_A → Prop} {h : xw_A} {a0 : Nat} {a1 : Nat} {a2 : Nat} {a3 : Nat} {a4 : Nat} {x5 : Int32}  (k : xw G m_Law_law F L bc bs pr px 1145 [some (.ref a0), some (.ref a1), some (.ref a2), some (.ref a3), some (.ref a4), some (.int x5), none, none, none] [] h) : xw G m_Law_law F L bc bs pr px 562 [some (.ref a0), some (.ref a1), some (.ref a2), some (.ref a3), some (.ref a4), some (.int x5), none, none, none] [] h := by
  refine x_goto (tgt := 1145) d_Law_law_562 (by decide) ?_
  exact k
theorem s_Law_law_565 {G : xw_G} {F L bc bs : Nat} {pr : Option Value → xw_A → Prop} {px : String → xw_A → Prop} {h : xw_A} {a0 : Nat} {a1 : Nat} {a2 : Nat} {a3 : Nat} {a4 : Nat} {x5 : Int32}  (k : xw G m_Law_law F L bc bs pr px 566 [some (.ref a0), some (.ref a1), some (.ref a2), some (.ref a3), some (.ref a4), some (.int x5), none, none, none] [.ref a1] h) : xw G m_Law_law F L bc bs pr px 565 [some (.ref a0), some (.ref a1), some (.ref a2), some (.ref a3), some (.ref a4), some (.int x5), none, none, none] [] h := by
  refine x_aload_n d_Law_law_565 rfl rfl ?_
  exact k
theorem s_Law_law_569 {G : xw_G} {F L bc bs : Nat} {pr : Option Value → xw_A → Prop} {px : String → xw_A → Prop} {h : xw_A} {a0 : Nat} {a1 : Nat} {a2 : Nat} {a3 : Nat} {a4 : Nat} {x5 : Int32} {y0 : Int32}  (k : xw G m_Law_law F L bc bs pr px 570 [some (.ref a0), some (.ref a1), some (.ref a2), some (.ref a3), some (.ref a4), some (.int x5), none, none, none] [.ref a2, .int y0] h) : xw G m_Law_law F L bc bs pr px 569 [some (.ref a0), some (.ref a1), some (.ref a2), some (.ref a3), some (.ref a4), some (.int x5), none, none, none] [.int y0] h := by
  refine x_aload_n d_Law_law_569 rfl rfl ?_
  exact k
theorem s_Law_law_573 {G : xw_G} {F L bc bs : Nat} {pr : Option Value → xw_A → Prop} {px : String → xw_A → Prop} {h : xw_A} {a0 : Nat} {a1 : Nat} {a2 : Nat} {a3 : Nat} {a4 : Nat} {x5 : Int32} {y0 : Int32} {y1 : Int32}  (kt : y1 = y0 → xw G m_Law_law F L bc bs pr px 1145 [some (.ref a0), some (.ref a1), some (.ref a2), some (.ref a3), some (.ref a4), some (.int x5), none, none, none] [] h) (kf : ¬ y1 = y0 → xw G m_Law_law F L bc bs pr px 576 [none, none, none, none, none, none, none, none, none] [] h) : xw G m_Law_law F L bc bs pr px 573 [some (.ref a0), some (.ref a1), some (.ref a2), some (.ref a3), some (.ref a4), some (.int x5), none, none, none] [.int y0, .int y1] h := by
  refine x_icmp_eq (tgt := 1145) d_Law_law_573 (by decide) (fun hc => ?_) (fun hc => ?_)
  · exact kt hc
  · exact x_le (lv' := [none, none, none, none, none, none, none, none, none]) (xw_le_n (xw_le_n (xw_le_n (xw_le_n (xw_le_n (xw_le_n (xw_le_n (xw_le_n (xw_le_n xw_le_e))))))))) (kf hc)
theorem s_Law_law_576 {G : xw_G} {F L bc bs : Nat} {pr : Option Value → xw_A → Prop} {px : String → xw_A → Prop} {h : xw_A}   (kr : pr (some (.int 0)) h) : xw G m_Law_law F L bc bs pr px 576 [none, none, none, none, none, none, none, none, none] [] h := by
  refine x_iconst (v := 0) d_Law_law_576 (by decide) ?_
  exact x_zret d_Law_law_577 rfl rfl kr
theorem s_Law_law_578 {G : xw_G} {F L bc bs : Nat} {pr : Option Value → xw_A → Prop} {px : String → xw_A → Prop} {h : xw_A} {a0 : Nat} {a1 : Nat} {a2 : Nat} {a3 : Nat} {a4 : Nat} {x5 : Int32}  (k : xw G m_Law_law F L bc bs pr px 579 [some (.ref a0), some (.ref a1), some (.ref a2), some (.ref a3), some (.ref a4), some (.int x5), none, none, none] [.ref a1] h) : xw G m_Law_law F L bc bs pr px 578 [some (.ref a0), some (.ref a1), some (.ref a2), some (.ref a3), some (.ref a4), some (.int x5), none, none, none] [] h := by
  refine x_aload_n d_Law_law_578 rfl rfl ?_
  exact k
theorem s_Law_law_582 {G : xw_G} {F L bc bs : Nat} {pr : Option Value → xw_A → Prop} {px : String → xw_A → Prop} {h : xw_A} {a0 : Nat} {a1 : Nat} {a2 : Nat} {a3 : Nat} {a4 : Nat} {x5 : Int32} {y0 : Int32}  (k : xw G m_Law_law F L bc bs pr px 583 [some (.ref a0), some (.ref a1), some (.ref a2), some (.ref a3), some (.ref a4), some (.int x5), none, none, none] [.ref a2, .int y0] h) : xw G m_Law_law F L bc bs pr px 582 [some (.ref a0), some (.ref a1), some (.ref a2), some (.ref a3), some (.ref a4), some (.int x5), none, none, none] [.int y0] h := by
  refine x_aload_n d_Law_law_582 rfl rfl ?_
  exact k
theorem s_Law_law_586 {G : xw_G} {F L bc bs : Nat} {pr : Option Value → xw_A → Prop} {px : String → xw_A → Prop} {h : xw_A} {a0 : Nat} {a1 : Nat} {a2 : Nat} {a3 : Nat} {a4 : Nat} {x5 : Int32} {y0 : Int32} {y1 : Int32}  (kt : y1 = y0 → xw G m_Law_law F L bc bs pr px 1145 [some (.ref a0), some (.ref a1), some (.ref a2), some (.ref a3), some (.ref a4), some (.int x5), none, none, none] [] h) (kf : ¬ y1 = y0 → xw G m_Law_law F L bc bs pr px 589 [none, none, none, none, none, none, none, none, none] [] h) : xw G m_Law_law F L bc bs pr px 586 [some (.ref a0), some (.ref a1), some (.ref a2), some (.ref a3), some (.ref a4), some (.int x5), none, none, none] [.int y0, .int y1] h := by
  refine x_icmp_eq (tgt := 1145) d_Law_law_586 (by decide) (fun hc => ?_) (fun hc => ?_)
  · exact kt hc
  · exact x_le (lv' := [none, none, none, none, none, none, none, none, none]) (xw_le_n (xw_le_n (xw_le_n (xw_le_n (xw_le_n (xw_le_n (xw_le_n (xw_le_n (xw_le_n xw_le_e))))))))) (kf hc)
theorem s_Law_law_589 {G : xw_G} {F L bc bs : Nat} {pr : Option Value → xw_A → Prop} {px : String → xw_A → Prop} {h : xw_A}   (kr : pr (some (.int 0)) h) : xw G m_Law_law F L bc bs pr px 589 [none, none, none, none, none, none, none, none, none] [] h := by
  refine x_iconst (v := 0) d_Law_law_589 (by decide) ?_
  exact x_zret d_Law_law_590 rfl rfl kr
theorem s_Law_law_591 {G : xw_G} {F L bc bs : Nat} {pr : Option Value → xw_A → Prop} {px : String → xw_A → Prop} {h : xw_A} {a0 : Nat} {a1 : Nat} {a2 : Nat} {a3 : Nat} {a4 : Nat} {x5 : Int32} {N : Nat} {xs : Nat → Int32} (hX : va_X a0 N xs G.2.2.1 G.2.2.1.heap) (i_597 : vp_in (x5 + 1) N) (i_603 : vp_in (x5 + 2) N) (k : xw G m_Law_law F L bc bs pr px 604 [some (.ref a0), some (.ref a1), some (.ref a2), some (.ref a3), some (.ref a4), some (.int x5), none, none, none] [.int (xs (x5 + 2).toNatClampNeg), .int (xs (x5 + 1).toNatClampNeg), .ref a1] h) : xw G m_Law_law F L bc bs pr px 591 [some (.ref a0), some (.ref a1), some (.ref a2), some (.ref a3), some (.ref a4), some (.int x5), none, none, none] [] h := by
  refine x_aload_n d_Law_law_591 rfl rfl ?_
  refine x_aload_n d_Law_law_592 rfl rfl ?_
  refine x_iload d_Law_law_593 rfl ?_
  refine x_iconst (v := 1) d_Law_law_595 (by decide) ?_
  refine x_iadd d_Law_law_596 ?_
  refine x_sld hX d_Law_law_597 i_597 ?_
  refine x_aload_n d_Law_law_598 rfl rfl ?_
  refine x_iload d_Law_law_599 rfl ?_
  refine x_iconst (v := 2) d_Law_law_601 (by decide) ?_
  refine x_iadd d_Law_law_602 ?_
  refine x_sld hX d_Law_law_603 i_603 ?_
  exact k
theorem s_Law_law_607 {G : xw_G} {F L bc bs : Nat} {pr : Option Value → xw_A → Prop} {px : String → xw_A → Prop} {h : xw_A} {a0 : Nat} {a1 : Nat} {a2 : Nat} {a3 : Nat} {a4 : Nat} {x5 : Int32} {y0 : Int32} {N : Nat} {xs : Nat → Int32} (hX : va_X a0 N xs G.2.2.1 G.2.2.1.heap) (i_615 : vp_in (x5 + 1) N) (i_621 : vp_in (x5 + 2) N) (k : xw G m_Law_law F L bc bs pr px 622 [some (.ref a0), some (.ref a1), some (.ref a2), some (.ref a3), some (.ref a4), some (.int x5), some (.int y0), none, none] [.int (xs (x5 + 2).toNatClampNeg), .int (xs (x5 + 1).toNatClampNeg), .ref a2] h) : xw G m_Law_law F L bc bs pr px 607 [some (.ref a0), some (.ref a1), some (.ref a2), some (.ref a3), some (.ref a4), some (.int x5), none, none, none] [.int y0] h := by
  refine x_istore d_Law_law_607 (by decide) rfl ?_
  show xw G m_Law_law F L bc bs pr px 609 [some (.ref a0), some (.ref a1), some (.ref a2), some (.ref a3), some (.ref a4), some (.int x5), some (.int y0), none, none] [] h
  refine x_aload_n d_Law_law_609 rfl rfl ?_
  refine x_aload_n d_Law_law_610 rfl rfl ?_
  refine x_iload d_Law_law_611 rfl ?_
  refine x_iconst (v := 1) d_Law_law_613 (by decide) ?_
  refine x_iadd d_Law_law_614 ?_
  refine x_sld hX d_Law_law_615 i_615 ?_
  refine x_aload_n d_Law_law_616 rfl rfl ?_
  refine x_iload d_Law_law_617 rfl ?_
  refine x_iconst (v := 2) d_Law_law_619 (by decide) ?_
  refine x_iadd d_Law_law_620 ?_
  refine x_sld hX d_Law_law_621 i_621 ?_
  exact k
theorem s_Law_law_625 {G : xw_G} {F L bc bs : Nat} {pr : Option Value → xw_A → Prop} {px : String → xw_A → Prop} {h : xw_A} {a0 : Nat} {a1 : Nat} {a2 : Nat} {a3 : Nat} {a4 : Nat} {x5 : Int32} {x6 : Int32}  (k : xw G m_Law_law F L bc bs pr px 626 [some (.ref a0), some (.ref a1), some (.ref a2), some (.ref a3), some (.ref a4), some (.int x5), some (.int x6), none, none] [.ref a2] h) : xw G m_Law_law F L bc bs pr px 625 [some (.ref a0), some (.ref a1), some (.ref a2), some (.ref a3), some (.ref a4), some (.int x5), some (.int x6), none, none] [] h := by
  refine x_aload_n d_Law_law_625 rfl rfl ?_
  exact k
theorem s_Law_law_629 {G : xw_G} {F L bc bs : Nat} {pr : Option Value → xw_A → Prop} {px : String → xw_A → Prop} {h : xw_A} {a0 : Nat} {a1 : Nat} {a2 : Nat} {a3 : Nat} {a4 : Nat} {x5 : Int32} {x6 : Int32} {y0 : Int32}  (kt : y0 = x6 → xw G m_Law_law F L bc bs pr px 636 [some (.ref a0), some (.ref a1), some (.ref a2), some (.ref a3), some (.ref a4), some (.int x5), none, none, none] [] h) (kf : ¬ y0 = x6 → xw G m_Law_law F L bc bs pr px 634 [none, none, none, none, none, none, none, none, none] [] h) : xw G m_Law_law F L bc bs pr px 629 [some (.ref a0), some (.ref a1), some (.ref a2), some (.ref a3), some (.ref a4), some (.int x5), some (.int x6), none, none] [.int y0] h := by
  refine x_iload d_Law_law_629 rfl ?_
  refine x_icmp_eq (tgt := 636) d_Law_law_631 (by decide) (fun hc => ?_) (fun hc => ?_)
  · exact x_le (lv' := [some (.ref a0), some (.ref a1), some (.ref a2), some (.ref a3), some (.ref a4), some (.int x5), none, none, none]) (xw_le_s (xw_le_s (xw_le_s (xw_le_s (xw_le_s (xw_le_s (xw_le_n (xw_le_n (xw_le_n xw_le_e))))))))) (kt hc)
  · exact x_le (lv' := [none, none, none, none, none, none, none, none, none]) (xw_le_n (xw_le_n (xw_le_n (xw_le_n (xw_le_n (xw_le_n (xw_le_n (xw_le_n (xw_le_n xw_le_e))))))))) (kf hc)
theorem s_Law_law_634 {G : xw_G} {F L bc bs : Nat} {pr : Option Value → xw_A → Prop} {px : String → xw_A → Prop} {h : xw_A}   (kr : pr (some (.int 0)) h) : xw G m_Law_law F L bc bs pr px 634 [none, none, none, none, none, none, none, none, none] [] h := by
  refine x_iconst (v := 0) d_Law_law_634 (by decide) ?_
  exact x_zret d_Law_law_635 rfl rfl kr
theorem s_Law_law_636 {G : xw_G} {F L bc bs : Nat} {pr : Option Value → xw_A → Prop} {px : String → xw_A → Prop} {h : xw_A} {a0 : Nat} {a1 : Nat} {a2 : Nat} {a3 : Nat} {a4 : Nat} {x5 : Int32}  (k : xw G m_Law_law F L bc bs pr px 1145 [some (.ref a0), some (.ref a1), some (.ref a2), some (.ref a3), some (.ref a4), some (.int x5), none, none, none] [] h) : xw G m_Law_law F L bc bs pr px 636 [some (.ref a0), some (.ref a1), some (.ref a2), some (.ref a3), some (.ref a4), some (.int x5), none, none, none] [] h := by
  refine x_goto (tgt := 1145) d_Law_law_636 (by decide) ?_
  exact k
theorem s_Law_law_639 {G : xw_G} {F L bc bs : Nat} {pr : Option Value → xw_A → Prop} {px : String → xw_A → Prop} {h : xw_A} {a0 : Nat} {a1 : Nat} {a2 : Nat} {a3 : Nat} {a4 : Nat} {x5 : Int32} {N : Nat} {xs : Nat → Int32} (hX : va_X a0 N xs G.2.2.1 G.2.2.1.heap) (i_645 : vp_in (x5 + 1) N) (i_651 : vp_in (x5 + 2) N) (k : xw G m_Law_law F L bc bs pr px 653 [some (.ref a0), some (.ref a1), some (.ref a2), some (.ref a3), some (.ref a4), some (.int x5), none, none, none] [.ref a3, .int (xs (x5 + 2).toNatClampNeg), .int (xs (x5 + 1).toNatClampNeg), .ref a1] h) : xw G m_Law_law F L bc bs pr px 639 [some (.ref a0), some (.ref a1), some (.ref a2), some (.ref a3), some (.ref a4), some (.int x5), none, none, none] [] h := by
  refine x_aload_n d_Law_law_639 rfl rfl ?_
  refine x_aload_n d_Law_law_640 rfl rfl ?_
  refine x_iload d_Law_law_641 rfl ?_
  refine x_iconst (v := 1) d_Law_law_643 (by decide) ?_
  refine x_iadd d_Law_law_644 ?_
  refine x_sld hX d_Law_law_645 i_645 ?_
  refine x_aload_n d_Law_law_646 rfl rfl ?_
  refine x_iload d_Law_law_647 rfl ?_
  refine x_iconst (v := 2) d_Law_law_649 (by decide) ?_
  refine x_iadd d_Law_law_650 ?_
  refine x_sld hX d_Law_law_651 i_651 ?_
  refine x_aload_n d_Law_law_652 rfl rfl ?_
  exact k
theorem s_Law_law_656 {G : xw_G} {F L bc bs : Nat} {pr : Option Value → xw_A → Prop} {px : String → xw_A → Prop} {h : xw_A} {a0 : Nat} {a1 : Nat} {a2 : Nat} {a3 : Nat} {a4 : Nat} {x5 : Int32} {y0 : Int32} {N : Nat} {xs : Nat → Int32} (hX : va_X a0 N xs G.2.2.1 G.2.2.1.heap) (i_664 : vp_in (x5 + 1) N) (i_670 : vp_in (x5 + 2) N) (k : xw G m_Law_law F L bc bs pr px 671 [some (.ref a0), some (.ref a1), some (.ref a2), some (.ref a3), some (.ref a4), some (.int x5), some (.int y0), none, none] [.int (xs (x5 + 2).toNatClampNeg), .int (xs (x5 + 1).toNatClampNeg), .ref a2] h) : xw G m_Law_law F L bc bs pr px 656 [some (.ref a0), some (.ref a1), some (.ref a2), some (.ref a3), some (.ref a4), some (.int x5), none, none, none] [.int y0] h := by
  refine x_istore d_Law_law_656 (by decide) rfl ?_
  show xw G m_Law_law F L bc bs pr px 658 [some (.ref a0), some (.ref a1), some (.ref a2), some (.ref a3), some (.ref a4), some (.int x5), some (.int y0), none, none] [] h
  refine x_aload_n d_Law_law_658 rfl rfl ?_
  refine x_aload_n d_Law_law_659 rfl rfl ?_
  refine x_iload d_Law_law_660 rfl ?_
  refine x_iconst (v := 1) d_Law_law_662 (by decide) ?_
  refine x_iadd d_Law_law_663 ?_
  refine x_sld hX d_Law_law_664 i_664 ?_
  refine x_aload_n d_Law_law_665 rfl rfl ?_
  refine x_iload d_Law_law_666 rfl ?_
  refine x_iconst (v := 2) d_Law_law_668 (by decide) ?_
  refine x_iadd d_Law_law_669 ?_
  refine x_sld hX d_Law_law_670 i_670 ?_
  exact k
theorem s_Law_law_674 {G : xw_G} {F L bc bs : Nat} {pr : Option Value → xw_A → Prop} {px : String → xw_A → Prop} {h : xw_A} {a0 : Nat} {a1 : Nat} {a2 : Nat} {a3 : Nat} {a4 : Nat} {x5 : Int32} {x6 : Int32} {y0 : Int32}  (k : xw G m_Law_law F L bc bs pr px 677 [some (.ref a0), some (.ref a1), some (.ref a2), some (.ref a3), some (.ref a4), some (.int x5), some (.int x6), some (.int y0), none] [.ref a2] h) : xw G m_Law_law F L bc bs pr px 674 [some (.ref a0), some (.ref a1), some (.ref a2), some (.ref a3), some (.ref a4), some (.int x5), some (.int x6), none, none] [.int y0] h := by
  refine x_istore d_Law_law_674 (by decide) rfl ?_
  show xw G m_Law_law F L bc bs pr px 676 [some (.ref a0), some (.ref a1), some (.ref a2), some (.ref a3), some (.ref a4), some (.int x5), some (.int x6), some (.int y0), none] [] h
  refine x_aload_n d_Law_law_676 rfl rfl ?_
  exact k
theorem s_Law_law_680 {G : xw_G} {F L bc bs : Nat} {pr : Option Value → xw_A → Prop} {px : String → xw_A → Prop} {h : xw_A} {a0 : Nat} {a1 : Nat} {a2 : Nat} {a3 : Nat} {a4 : Nat} {x5 : Int32} {x6 : Int32} {x7 : Int32} {y0 : Int32}  (kt : y0 = x6 → xw G m_Law_law F L bc bs pr px 687 [some (.ref a0), some (.ref a1), some (.ref a2), some (.ref a3), some (.ref a4), some (.int x5), some (.int x6), some (.int x7), none] [] h) (kf : ¬ y0 = x6 → xw G m_Law_law F L bc bs pr px 685 [none, none, none, none, none, none, none, none, none] [] h) : xw G m_Law_law F L bc bs pr px 680 [some (.ref a0), some (.ref a1), some (.ref a2), some (.ref a3), some (.ref a4), some (.int x5), some (.int x6), some (.int x7), none] [.int y0] h := by
  refine x_iload d_Law_law_680 rfl ?_
  refine x_icmp_eq (tgt := 687) d_Law_law_682 (by decide) (fun hc => ?_) (fun hc => ?_)
  · exact kt hc
  · exact x_le (lv' := [none, none, none, none, none, none, none, none, none]) (xw_le_n (xw_le_n (xw_le_n (xw_le_n (xw_le_n (xw_le_n (xw_le_n (xw_le_n (xw_le_n xw_le_e))))))))) (kf hc)
theorem s_Law_law_685 {G : xw_G} {F L bc bs : Nat} {pr : Option Value → xw_A → Prop} {px : String → xw_A → Prop} {h : xw_A}   (kr : pr (some (.int 0)) h) : xw G m_Law_law F L bc bs pr px 685 [none, none, none, none, none, none, none, none, none] [] h := by
  refine x_iconst (v := 0) d_Law_law_685 (by decide) ?_
  exact x_zret d_Law_law_686 rfl rfl kr
theorem s_Law_law_687 {G : xw_G} {F L bc bs : Nat} {pr : Option Value → xw_A → Prop} {px : String → xw_A → Prop} {h : xw_A} {a0 : Nat} {a1 : Nat} {a2 : Nat} {a3 : Nat} {a4 : Nat} {x5 : Int32} {x6 : Int32} {x7 : Int32}  (kt : ¬ x6 = 0 → xw G m_Law_law F L bc bs pr px 704 [some (.ref a0), some (.ref a1), some (.ref a2), some (.ref a3), some (.ref a4), some (.int x5), none, none, none] [] h) (kf : x6 = 0 → xw G m_Law_law F L bc bs pr px 692 [some (.ref a0), some (.ref a1), some (.ref a2), some (.ref a3), some (.ref a4), some (.int x5), none, some (.int x7), none] [] h) : xw G m_Law_law F L bc bs pr px 687 [some (.ref a0), some (.ref a1), some (.ref a2), some (.ref a3), some (.ref a4), some (.int x5), some (.int x6), some (.int x7), none] [] h := by
  refine x_iload d_Law_law_687 rfl ?_
  refine x_if_ne (tgt := 704) d_Law_law_689 (by decide) (fun hc => ?_) (fun hc => ?_)
  · exact x_le (lv' := [some (.ref a0), some (.ref a1), some (.ref a2), some (.ref a3), some (.ref a4), some (.int x5), none, none, none]) (xw_le_s (xw_le_s (xw_le_s (xw_le_s (xw_le_s (xw_le_s (xw_le_n (xw_le_n (xw_le_n xw_le_e))))))))) (kt hc)
  · exact x_le (lv' := [some (.ref a0), some (.ref a1), some (.ref a2), some (.ref a3), some (.ref a4), some (.int x5), none, some (.int x7), none]) (xw_le_s (xw_le_s (xw_le_s (xw_le_s (xw_le_s (xw_le_s (xw_le_n (xw_le_s (xw_le_n xw_le_e))))))))) (kf hc)
theorem s_Law_law_692 {G : xw_G} {F L bc bs : Nat} {pr : Option Value → xw_A → Prop} {px : String → xw_A → Prop} {h : xw_A} {a0 : Nat} {a1 : Nat} {a2 : Nat} {a3 : Nat} {a4 : Nat} {x5 : Int32} {x7 : Int32} {n_a3 : Nat} {f_a3 : Nat → Int64} (e_a3 : h a3 = some (.inl (2, n_a3, .inr (.inl f_a3)))) (i_694 : vp_in 0 n_a3) (kt : (lg_cmp (f_a3 (0 : Int32).toNatClampNeg) x7.toInt64) = 0 → xw G m_Law_law F L bc bs pr px 704 [some (.ref a0), some (.ref a1), some (.ref a2), some (.ref a3), some (.ref a4), some (.int x5), none, none, none] [] h) (kf : ¬ (lg_cmp (f_a3 (0 : Int32).toNatClampNeg) x7.toInt64) = 0 → xw G m_Law_law F L bc bs pr px 702 [none, none, none, none, none, none, none, none, none] [] h) : xw G m_Law_law F L bc bs pr px 692 [some (.ref a0), some (.ref a1), some (.ref a2), some (.ref a3), some (.ref a4), some (.int x5), none, some (.int x7), none] [] h := by
  refine x_aload_n d_Law_law_692 rfl rfl ?_
  refine x_iconst (v := 0) d_Law_law_693 (by decide) ?_
  refine x_lald d_Law_law_694 e_a3 i_694 ?_
  refine x_iload d_Law_law_695 rfl ?_
  refine x_i2l d_Law_law_697 rfl ?_
  refine x_lcmp d_Law_law_698 ?_
  refine x_if_eq (tgt := 704) d_Law_law_699 (by decide) (fun hc => ?_) (fun hc => ?_)
  · exact x_le (lv' := [some (.ref a0), some (.ref a1), some (.ref a2), some (.ref a3), some (.ref a4), some (.int x5), none, none, none]) (xw_le_s (xw_le_s (xw_le_s (xw_le_s (xw_le_s (xw_le_s (xw_le_n (xw_le_n (xw_le_n xw_le_e))))))))) (kt hc)
  · exact x_le (lv' := [none, none, none, none, none, none, none, none, none]) (xw_le_n (xw_le_n (xw_le_n (xw_le_n (xw_le_n (xw_le_n (xw_le_n (xw_le_n (xw_le_n xw_le_e))))))))) (kf hc)
theorem s_Law_law_702 {G : xw_G} {F L bc bs : Nat} {pr : Option Value → xw_A → Prop} {px : String → xw_A → Prop} {h : xw_A}   (kr : pr (some (.int 0)) h) : xw G m_Law_law F L bc bs pr px 702 [none, none, none, none, none, none, none, none, none] [] h := by
  refine x_iconst (v := 0) d_Law_law_702 (by decide) ?_
  exact x_zret d_Law_law_703 rfl rfl kr
theorem s_Law_law_704 {G : xw_G} {F L bc bs : Nat} {pr : Option Value → xw_A → Prop} {px : String → xw_A → Prop} {h : xw_A} {a0 : Nat} {a1 : Nat} {a2 : Nat} {a3 : Nat} {a4 : Nat} {x5 : Int32}  (k : xw G m_Law_law F L bc bs pr px 1145 [some (.ref a0), some (.ref a1), some (.ref a2), some (.ref a3), some (.ref a4), some (.int x5), none, none, none] [] h) : xw G m_Law_law F L bc bs pr px 704 [some (.ref a0), some (.ref a1), some (.ref a2), some (.ref a3), some (.ref a4), some (.int x5), none, none, none] [] h := by
  refine x_goto (tgt := 1145) d_Law_law_704 (by decide) ?_
  exact k
theorem s_Law_law_707 {G : xw_G} {F L bc bs : Nat} {pr : Option Value → xw_A → Prop} {px : String → xw_A → Prop} {h : xw_A} {a0 : Nat} {a1 : Nat} {a2 : Nat} {a3 : Nat} {a4 : Nat} {x5 : Int32}  (k : xw G m_Law_law F L bc bs pr px 709 [some (.ref a0), some (.ref a1), some (.ref a2), some (.ref a3), some (.ref a4), some (.int x5), none, none, none] [.ref a3, .ref a1] h) : xw G m_Law_law F L bc bs pr px 707 [some (.ref a0), some (.ref a1), some (.ref a2), some (.ref a3), some (.ref a4), some (.int x5), none, none, none] [] h := by
  refine x_aload_n d_Law_law_707 rfl rfl ?_
  refine x_aload_n d_Law_law_708 rfl rfl ?_
  exact k
theorem s_Law_law_712 {G : xw_G} {F L bc bs : Nat} {pr : Option Value → xw_A → Prop} {px : String → xw_A → Prop} {h : xw_A} {a0 : Nat} {a1 : Nat} {a2 : Nat} {a3 : Nat} {a4 : Nat} {x5 : Int32} {y0 : Int32}  (k : xw G m_Law_law F L bc bs pr px 715 [some (.ref a0), some (.ref a1), some (.ref a2), some (.ref a3), some (.ref a4), some (.int x5), some (.int y0), none, none] [.ref a2] h) : xw G m_Law_law F L bc bs pr px 712 [some (.ref a0), some (.ref a1), some (.ref a2), some (.ref a3), some (.ref a4), some (.int x5), none, none, none] [.int y0] h := by
  refine x_istore d_Law_law_712 (by decide) rfl ?_
  show xw G m_Law_law F L bc bs pr px 714 [some (.ref a0), some (.ref a1), some (.ref a2), some (.ref a3), some (.ref a4), some (.int x5), some (.int y0), none, none] [] h
  refine x_aload_n d_Law_law_714 rfl rfl ?_
  exact k
theorem s_Law_law_718 {G : xw_G} {F L bc bs : Nat} {pr : Option Value → xw_A → Prop} {px : String → xw_A → Prop} {h : xw_A} {a0 : Nat} {a1 : Nat} {a2 : Nat} {a3 : Nat} {a4 : Nat} {x5 : Int32} {x6 : Int32} {y0 : Int32}  (k : xw G m_Law_law F L bc bs pr px 721 [some (.ref a0), some (.ref a1), some (.ref a2), some (.ref a3), some (.ref a4), some (.int x5), some (.int x6), some (.int y0), none] [.ref a2] h) : xw G m_Law_law F L bc bs pr px 718 [some (.ref a0), some (.ref a1), some (.ref a2), some (.ref a3), some (.ref a4), some (.int x5), some (.int x6), none, none] [.int y0] h := by
  refine x_istore d_Law_law_718 (by decide) rfl ?_
  show xw G m_Law_law F L bc bs pr px 720 [some (.ref a0), some (.ref a1), some (.ref a2), some (.ref a3), some (.ref a4), some (.int x5), some (.int x6), some (.int y0), none] [] h
  refine x_aload_n d_Law_law_720 rfl rfl ?_
  exact k
theorem s_Law_law_724 {G : xw_G} {F L bc bs : Nat} {pr : Option Value → xw_A → Prop} {px : String → xw_A → Prop} {h : xw_A} {a0 : Nat} {a1 : Nat} {a2 : Nat} {a3 : Nat} {a4 : Nat} {x5 : Int32} {x6 : Int32} {x7 : Int32} {y0 : Int32}  (kt : y0 = x6 → xw G m_Law_law F L bc bs pr px 731 [some (.ref a0), some (.ref a1), some (.ref a2), some (.ref a3), some (.ref a4), some (.int x5), some (.int x6), some (.int x7), none] [] h) (kf : ¬ y0 = x6 → xw G m_Law_law F L bc bs pr px 729 [none, none, none, none, none, none, none, none, none] [] h) : xw G m_Law_law F L bc bs pr px 724 [some (.ref a0), some (.ref a1), some (.ref a2), some (.ref a3), some (.ref a4), some (.int x5), some (.int x6), some (.int x7), none] [.int y0] h := by
  refine x_iload d_Law_law_724 rfl ?_
  refine x_icmp_eq (tgt := 731) d_Law_law_726 (by decide) (fun hc => ?_) (fun hc => ?_)
  · exact kt hc
  · exact x_le (lv' := [none, none, none, none, none, none, none, none, none]) (xw_le_n (xw_le_n (xw_le_n (xw_le_n (xw_le_n (xw_le_n (xw_le_n (xw_le_n (xw_le_n xw_le_e))))))))) (kf hc)
theorem s_Law_law_729 {G : xw_G} {F L bc bs : Nat} {pr : Option Value → xw_A → Prop} {px : String → xw_A → Prop} {h : xw_A}   (kr : pr (some (.int 0)) h) : xw G m_Law_law F L bc bs pr px 729 [none, none, none, none, none, none, none, none, none] [] h := by
  refine x_iconst (v := 0) d_Law_law_729 (by decide) ?_
  exact x_zret d_Law_law_730 rfl rfl kr
theorem s_Law_law_731 {G : xw_G} {F L bc bs : Nat} {pr : Option Value → xw_A → Prop} {px : String → xw_A → Prop} {h : xw_A} {a0 : Nat} {a1 : Nat} {a2 : Nat} {a3 : Nat} {a4 : Nat} {x5 : Int32} {x6 : Int32} {x7 : Int32}  (kt : ¬ x6 = 0 → xw G m_Law_law F L bc bs pr px 748 [some (.ref a0), some (.ref a1), some (.ref a2), some (.ref a3), some (.ref a4), some (.int x5), none, none, none] [] h) (kf : x6 = 0 → xw G m_Law_law F L bc bs pr px 736 [some (.ref a0), some (.ref a1), some (.ref a2), some (.ref a3), some (.ref a4), some (.int x5), none, some (.int x7), none] [] h) : xw G m_Law_law F L bc bs pr px 731 [some (.ref a0), some (.ref a1), some (.ref a2), some (.ref a3), some (.ref a4), some (.int x5), some (.int x6), some (.int x7), none] [] h := by
  refine x_iload d_Law_law_731 rfl ?_
  refine x_if_ne (tgt := 748) d_Law_law_733 (by decide) (fun hc => ?_) (fun hc => ?_)
  · exact x_le (lv' := [some (.ref a0), some (.ref a1), some (.ref a2), some (.ref a3), some (.ref a4), some (.int x5), none, none, none]) (xw_le_s (xw_le_s (xw_le_s (xw_le_s (xw_le_s (xw_le_s (xw_le_n (xw_le_n (xw_le_n xw_le_e))))))))) (kt hc)
  · exact x_le (lv' := [some (.ref a0), some (.ref a1), some (.ref a2), some (.ref a3), some (.ref a4), some (.int x5), none, some (.int x7), none]) (xw_le_s (xw_le_s (xw_le_s (xw_le_s (xw_le_s (xw_le_s (xw_le_n (xw_le_s (xw_le_n xw_le_e))))))))) (kf hc)
theorem s_Law_law_736 {G : xw_G} {F L bc bs : Nat} {pr : Option Value → xw_A → Prop} {px : String → xw_A → Prop} {h : xw_A} {a0 : Nat} {a1 : Nat} {a2 : Nat} {a3 : Nat} {a4 : Nat} {x5 : Int32} {x7 : Int32} {n_a3 : Nat} {f_a3 : Nat → Int64} (e_a3 : h a3 = some (.inl (2, n_a3, .inr (.inl f_a3)))) (i_738 : vp_in 0 n_a3) (kt : (lg_cmp (f_a3 (0 : Int32).toNatClampNeg) x7.toInt64) = 0 → xw G m_Law_law F L bc bs pr px 748 [some (.ref a0), some (.ref a1), some (.ref a2), some (.ref a3), some (.ref a4), some (.int x5), none, none, none] [] h) (kf : ¬ (lg_cmp (f_a3 (0 : Int32).toNatClampNeg) x7.toInt64) = 0 → xw G m_Law_law F L bc bs pr px 746 [none, none, none, none, none, none, none, none, none] [] h) : xw G m_Law_law F L bc bs pr px 736 [some (.ref a0), some (.ref a1), some (.ref a2), some (.ref a3), some (.ref a4), some (.int x5), none, some (.int x7), none] [] h := by
  refine x_aload_n d_Law_law_736 rfl rfl ?_
  refine x_iconst (v := 0) d_Law_law_737 (by decide) ?_
  refine x_lald d_Law_law_738 e_a3 i_738 ?_
  refine x_iload d_Law_law_739 rfl ?_
  refine x_i2l d_Law_law_741 rfl ?_
  refine x_lcmp d_Law_law_742 ?_
  refine x_if_eq (tgt := 748) d_Law_law_743 (by decide) (fun hc => ?_) (fun hc => ?_)
  · exact x_le (lv' := [some (.ref a0), some (.ref a1), some (.ref a2), some (.ref a3), some (.ref a4), some (.int x5), none, none, none]) (xw_le_s (xw_le_s (xw_le_s (xw_le_s (xw_le_s (xw_le_s (xw_le_n (xw_le_n (xw_le_n xw_le_e))))))))) (kt hc)
  · exact x_le (lv' := [none, none, none, none, none, none, none, none, none]) (xw_le_n (xw_le_n (xw_le_n (xw_le_n (xw_le_n (xw_le_n (xw_le_n (xw_le_n (xw_le_n xw_le_e))))))))) (kf hc)
theorem s_Law_law_746 {G : xw_G} {F L bc bs : Nat} {pr : Option Value → xw_A → Prop} {px : String → xw_A → Prop} {h : xw_A}   (kr : pr (some (.int 0)) h) : xw G m_Law_law F L bc bs pr px 746 [none, none, none, none, none, none, none, none, none] [] h := by
  refine x_iconst (v := 0) d_Law_law_746 (by decide) ?_
  exact x_zret d_Law_law_747 rfl rfl kr
theorem s_Law_law_748 {G : xw_G} {F L bc bs : Nat} {pr : Option Value → xw_A → Prop} {px : String → xw_A → Prop} {h : xw_A} {a0 : Nat} {a1 : Nat} {a2 : Nat} {a3 : Nat} {a4 : Nat} {x5 : Int32}  (k : xw G m_Law_law F L bc bs pr px 1145 [some (.ref a0), some (.ref a1), some (.ref a2), some (.ref a3), some (.ref a4), some (.int x5), none, none, none] [] h) : xw G m_Law_law F L bc bs pr px 748 [some (.ref a0), some (.ref a1), some (.ref a2), some (.ref a3), some (.ref a4), some (.int x5), none, none, none] [] h := by
  refine x_goto (tgt := 1145) d_Law_law_748 (by decide) ?_
  exact k
theorem s_Law_law_751 {G : xw_G} {F L bc bs : Nat} {pr : Option Value → xw_A → Prop} {px : String → xw_A → Prop} {h : xw_A} {a0 : Nat} {a1 : Nat} {a2 : Nat} {a3 : Nat} {a4 : Nat} {x5 : Int32}  (k : xw G m_Law_law F L bc bs pr px 752 [some (.ref a0), some (.ref a1), some (.ref a2), some (.ref a3), some (.ref a4), some (.int x5), none, none, none] [.ref a1] h) : xw G m_Law_law F L bc bs pr px 751 [some (.ref a0), some (.ref a1), some (.ref a2), some (.ref a3), some (.ref a4), some (.int x5), none, none, none] [] h := by
  refine x_aload_n d_Law_law_751 rfl rfl ?_
  exact k
theorem s_Law_law_755 {G : xw_G} {F L bc bs : Nat} {pr : Option Value → xw_A → Prop} {px : String → xw_A → Prop} {h : xw_A} {a0 : Nat} {a1 : Nat} {a2 : Nat} {a3 : Nat} {a4 : Nat} {x5 : Int32} {y0 : Int32}  (k : xw G m_Law_law F L bc bs pr px 756 [some (.ref a0), some (.ref a1), some (.ref a2), some (.ref a3), some (.ref a4), some (.int x5), none, none, none] [.ref a2, .int y0] h) : xw G m_Law_law F L bc bs pr px 755 [some (.ref a0), some (.ref a1), some (.ref a2), some (.ref a3), some (.ref a4), some (.int x5), none, none, none] [.int y0] h := by
  refine x_aload_n d_Law_law_755 rfl rfl ?_
  exact k
theorem s_Law_law_759 {G : xw_G} {F L bc bs : Nat} {pr : Option Value → xw_A → Prop} {px : String → xw_A → Prop} {h : xw_A} {a0 : Nat} {a1 : Nat} {a2 : Nat} {a3 : Nat} {a4 : Nat} {x5 : Int32} {y0 : Int32} {y1 : Int32}  (kt : y1 = y0 → xw G m_Law_law F L bc bs pr px 1145 [some (.ref a0), some (.ref a1), some (.ref a2), some (.ref a3), some (.ref a4), some (.int x5), none, none, none] [] h) (kf : ¬ y1 = y0 → xw G m_Law_law F L bc bs pr px 762 [none, none, none, none, none, none, none, none, none] [] h) : xw G m_Law_law F L bc bs pr px 759 [some (.ref a0), some (.ref a1), some (.ref a2), some (.ref a3), some (.ref a4), some (.int x5), none, none, none] [.int y0, .int y1] h := by
  refine x_icmp_eq (tgt := 1145) d_Law_law_759 (by decide) (fun hc => ?_) (fun hc => ?_)
  · exact kt hc
  · exact x_le (lv' := [none, none, none, none, none, none, none, none, none]) (xw_le_n (xw_le_n (xw_le_n (xw_le_n (xw_le_n (xw_le_n (xw_le_n (xw_le_n (xw_le_n xw_le_e))))))))) (kf hc)
theorem s_Law_law_762 {G : xw_G} {F L bc bs : Nat} {pr : Option Value → xw_A → Prop} {px : String → xw_A → Prop} {h : xw_A}   (kr : pr (some (.int 0)) h) : xw G m_Law_law F L bc bs pr px 762 [none, none, none, none, none, none, none, none, none] [] h := by
  refine x_iconst (v := 0) d_Law_law_762 (by decide) ?_
  exact x_zret d_Law_law_763 rfl rfl kr
theorem s_Law_law_764 {G : xw_G} {F L bc bs : Nat} {pr : Option Value → xw_A → Prop} {px : String → xw_A → Prop} {h : xw_A} {a0 : Nat} {a1 : Nat} {a2 : Nat} {a3 : Nat} {a4 : Nat} {x5 : Int32} {N : Nat} {xs : Nat → Int32} (hX : va_X a0 N xs G.2.2.1 G.2.2.1.heap) (i_770 : vp_in (x5 + 1) N) (i_776 : vp_in (x5 + 2) N) (kt : (xs (x5 + 2).toNatClampNeg) = 0 → xw G m_Law_law F L bc bs pr px 784 [some (.ref a0), some (.ref a1), some (.ref a2), some (.ref a3), some (.ref a4), some (.int x5), none, none, none] [.int (xs (x5 + 1).toNatClampNeg), .ref a1] h) (kf : ¬ (xs (x5 + 2).toNatClampNeg) = 0 → xw G m_Law_law F L bc bs pr px 780 [some (.ref a0), some (.ref a1), some (.ref a2), some (.ref a3), some (.ref a4), some (.int x5), none, none, none] [.int (xs (x5 + 1).toNatClampNeg), .ref a1] h) : xw G m_Law_law F L bc bs pr px 764 [some (.ref a0), some (.ref a1), some (.ref a2), some (.ref a3), some (.ref a4), some (.int x5), none, none, none] [] h := by
  refine x_aload_n d_Law_law_764 rfl rfl ?_
  refine x_aload_n d_Law_law_765 rfl rfl ?_
  refine x_iload d_Law_law_766 rfl ?_
  refine x_iconst (v := 1) d_Law_law_768 (by decide) ?_
  refine x_iadd d_Law_law_769 ?_
  refine x_sld hX d_Law_law_770 i_770 ?_
  refine x_aload_n d_Law_law_771 rfl rfl ?_
  refine x_iload d_Law_law_772 rfl ?_
  refine x_iconst (v := 2) d_Law_law_774 (by decide) ?_
  refine x_iadd d_Law_law_775 ?_
  refine x_sld hX d_Law_law_776 i_776 ?_
  refine x_if_eq (tgt := 784) d_Law_law_777 (by decide) (fun hc => ?_) (fun hc => ?_)
  · exact kt hc
  · exact kf hc
theorem s_Law_law_780 {G : xw_G} {F L bc bs : Nat} {pr : Option Value → xw_A → Prop} {px : String → xw_A → Prop} {h : xw_A} {a0 : Nat} {a1 : Nat} {a2 : Nat} {a3 : Nat} {a4 : Nat} {x5 : Int32} {y0 : Int32}  (k : xw G m_Law_law F L bc bs pr px 785 [some (.ref a0), some (.ref a1), some (.ref a2), some (.ref a3), some (.ref a4), some (.int x5), none, none, none] [.int 1, .int y0, .ref a1] h) : xw G m_Law_law F L bc bs pr px 780 [some (.ref a0), some (.ref a1), some (.ref a2), some (.ref a3), some (.ref a4), some (.int x5), none, none, none] [.int y0, .ref a1] h := by
  refine x_iconst (v := 1) d_Law_law_780 (by decide) ?_
  refine x_goto (tgt := 785) d_Law_law_781 (by decide) ?_
  exact k
theorem s_Law_law_784 {G : xw_G} {F L bc bs : Nat} {pr : Option Value → xw_A → Prop} {px : String → xw_A → Prop} {h : xw_A} {a0 : Nat} {a1 : Nat} {a2 : Nat} {a3 : Nat} {a4 : Nat} {x5 : Int32} {y0 : Int32}  (k : xw G m_Law_law F L bc bs pr px 785 [some (.ref a0), some (.ref a1), some (.ref a2), some (.ref a3), some (.ref a4), some (.int x5), none, none, none] [.int 0, .int y0, .ref a1] h) : xw G m_Law_law F L bc bs pr px 784 [some (.ref a0), some (.ref a1), some (.ref a2), some (.ref a3), some (.ref a4), some (.int x5), none, none, none] [.int y0, .ref a1] h := by
  refine x_iconst (v := 0) d_Law_law_784 (by decide) ?_
  exact k
theorem s_Law_law_785 {G : xw_G} {F L bc bs : Nat} {pr : Option Value → xw_A → Prop} {px : String → xw_A → Prop} {h : xw_A} {a0 : Nat} {a1 : Nat} {a2 : Nat} {a3 : Nat} {a4 : Nat} {x5 : Int32} {y0 : Int32} {y1 : Int32}  (k : xw G m_Law_law F L bc bs pr px 786 [some (.ref a0), some (.ref a1), some (.ref a2), some (.ref a3), some (.ref a4), some (.int x5), none, none, none] [.ref a3, .int y0, .int y1, .ref a1] h) : xw G m_Law_law F L bc bs pr px 785 [some (.ref a0), some (.ref a1), some (.ref a2), some (.ref a3), some (.ref a4), some (.int x5), none, none, none] [.int y0, .int y1, .ref a1] h := by
  refine x_aload_n d_Law_law_785 rfl rfl ?_
  exact k
theorem s_Law_law_789 {G : xw_G} {F L bc bs : Nat} {pr : Option Value → xw_A → Prop} {px : String → xw_A → Prop} {h : xw_A} {a0 : Nat} {a1 : Nat} {a2 : Nat} {a3 : Nat} {a4 : Nat} {x5 : Int32} {y0 : Int32} {N : Nat} {xs : Nat → Int32} (hX : va_X a0 N xs G.2.2.1 G.2.2.1.heap) (i_797 : vp_in (x5 + 1) N) (i_803 : vp_in (x5 + 2) N) (kt : (xs (x5 + 2).toNatClampNeg) = 0 → xw G m_Law_law F L bc bs pr px 811 [some (.ref a0), some (.ref a1), some (.ref a2), some (.ref a3), some (.ref a4), some (.int x5), some (.int y0), none, none] [.int (xs (x5 + 1).toNatClampNeg), .ref a2] h) (kf : ¬ (xs (x5 + 2).toNatClampNeg) = 0 → xw G m_Law_law F L bc bs pr px 807 [some (.ref a0), some (.ref a1), some (.ref a2), some (.ref a3), some (.ref a4), some (.int x5), some (.int y0), none, none] [.int (xs (x5 + 1).toNatClampNeg), .ref a2] h) : xw G m_Law_law F L bc bs pr px 789 [some (.ref a0), some (.ref a1), some (.ref a2), some (.ref a3), some (.ref a4), some (.int x5), none, none, none] [.int y0] h := by
  refine x_istore d_Law_law_789 (by decide) rfl ?_
  show xw G m_Law_law F L bc bs pr px 791 [some (.ref a0), some (.ref a1), some (.ref a2), some (.ref a3), some (.ref a4), some (.int x5), some (.int y0), none, none] [] h
  refine x_aload_n d_Law_law_791 rfl rfl ?_
  refine x_aload_n d_Law_law_792 rfl rfl ?_
  refine x_iload d_Law_law_793 rfl ?_
  refine x_iconst (v := 1) d_Law_law_795 (by decide) ?_
  refine x_iadd d_Law_law_796 ?_
  refine x_sld hX d_Law_law_797 i_797 ?_
  refine x_aload_n d_Law_law_798 rfl rfl ?_
  refine x_iload d_Law_law_799 rfl ?_
  refine x_iconst (v := 2) d_Law_law_801 (by decide) ?_
  refine x_iadd d_Law_law_802 ?_
  refine x_sld hX d_Law_law_803 i_803 ?_
  refine x_if_eq (tgt := 811) d_Law_law_804 (by decide) (fun hc => ?_) (fun hc => ?_)
  · exact kt hc
  · exact kf hc
theorem s_Law_law_807 {G : xw_G} {F L bc bs : Nat} {pr : Option Value → xw_A → Prop} {px : String → xw_A → Prop} {h : xw_A} {a0 : Nat} {a1 : Nat} {a2 : Nat} {a3 : Nat} {a4 : Nat} {x5 : Int32} {x6 : Int32} {y0 : Int32}  (k : xw G m_Law_law F L bc bs pr px 812 [some (.ref a0), some (.ref a1), some (.ref a2), some (.ref a3), some (.ref a4), some (.int x5), some (.int x6), none, none] [.int 1, .int y0, .ref a2] h) : xw G m_Law_law F L bc bs pr px 807 [some (.ref a0), some (.ref a1), some (.ref a2), some (.ref a3), some (.ref a4), some (.int x5), some (.int x6), none, none] [.int y0, .ref a2] h := by
  refine x_iconst (v := 1) d_Law_law_807 (by decide) ?_
  refine x_goto (tgt := 812) d_Law_law_808 (by decide) ?_
  exact k
theorem s_Law_law_811 {G : xw_G} {F L bc bs : Nat} {pr : Option Value → xw_A → Prop} {px : String → xw_A → Prop} {h : xw_A} {a0 : Nat} {a1 : Nat} {a2 : Nat} {a3 : Nat} {a4 : Nat} {x5 : Int32} {x6 : Int32} {y0 : Int32}  (k : xw G m_Law_law F L bc bs pr px 812 [some (.ref a0), some (.ref a1), some (.ref a2), some (.ref a3), some (.ref a4), some (.int x5), some (.int x6), none, none] [.int 0, .int y0, .ref a2] h) : xw G m_Law_law F L bc bs pr px 811 [some (.ref a0), some (.ref a1), some (.ref a2), some (.ref a3), some (.ref a4), some (.int x5), some (.int x6), none, none] [.int y0, .ref a2] h := by
  refine x_iconst (v := 0) d_Law_law_811 (by decide) ?_
  exact k
theorem s_Law_law_815 {G : xw_G} {F L bc bs : Nat} {pr : Option Value → xw_A → Prop} {px : String → xw_A → Prop} {h : xw_A} {a0 : Nat} {a1 : Nat} {a2 : Nat} {a3 : Nat} {a4 : Nat} {x5 : Int32} {x6 : Int32} {y0 : Int32}  (k : xw G m_Law_law F L bc bs pr px 818 [some (.ref a0), some (.ref a1), some (.ref a2), some (.ref a3), some (.ref a4), some (.int x5), some (.int x6), some (.int y0), none] [.ref a2] h) : xw G m_Law_law F L bc bs pr px 815 [some (.ref a0), some (.ref a1), some (.ref a2), some (.ref a3), some (.ref a4), some (.int x5), some (.int x6), none, none] [.int y0] h := by
  refine x_istore d_Law_law_815 (by decide) rfl ?_
  show xw G m_Law_law F L bc bs pr px 817 [some (.ref a0), some (.ref a1), some (.ref a2), some (.ref a3), some (.ref a4), some (.int x5), some (.int x6), some (.int y0), none] [] h
  refine x_aload_n d_Law_law_817 rfl rfl ?_
  exact k
theorem s_Law_law_821 {G : xw_G} {F L bc bs : Nat} {pr : Option Value → xw_A → Prop} {px : String → xw_A → Prop} {h : xw_A} {a0 : Nat} {a1 : Nat} {a2 : Nat} {a3 : Nat} {a4 : Nat} {x5 : Int32} {x6 : Int32} {x7 : Int32} {y0 : Int32}  (kt : y0 = x6 → xw G m_Law_law F L bc bs pr px 828 [some (.ref a0), some (.ref a1), some (.ref a2), some (.ref a3), some (.ref a4), some (.int x5), some (.int x6), some (.int x7), none] [] h) (kf : ¬ y0 = x6 → xw G m_Law_law F L bc bs pr px 826 [none, none, none, none, none, none, none, none, none] [] h) : xw G m_Law_law F L bc bs pr px 821 [some (.ref a0), some (.ref a1), some (.ref a2), some (.ref a3), some (.ref a4), some (.int x5), some (.int x6), some (.int x7), none] [.int y0] h := by
  refine x_iload d_Law_law_821 rfl ?_
  refine x_icmp_eq (tgt := 828) d_Law_law_823 (by decide) (fun hc => ?_) (fun hc => ?_)
  · exact kt hc
  · exact x_le (lv' := [none, none, none, none, none, none, none, none, none]) (xw_le_n (xw_le_n (xw_le_n (xw_le_n (xw_le_n (xw_le_n (xw_le_n (xw_le_n (xw_le_n xw_le_e))))))))) (kf hc)
theorem s_Law_law_826 {G : xw_G} {F L bc bs : Nat} {pr : Option Value → xw_A → Prop} {px : String → xw_A → Prop} {h : xw_A}   (kr : pr (some (.int 0)) h) : xw G m_Law_law F L bc bs pr px 826 [none, none, none, none, none, none, none, none, none] [] h := by
  refine x_iconst (v := 0) d_Law_law_826 (by decide) ?_
  exact x_zret d_Law_law_827 rfl rfl kr
theorem s_Law_law_828 {G : xw_G} {F L bc bs : Nat} {pr : Option Value → xw_A → Prop} {px : String → xw_A → Prop} {h : xw_A} {a0 : Nat} {a1 : Nat} {a2 : Nat} {a3 : Nat} {a4 : Nat} {x5 : Int32} {x6 : Int32} {x7 : Int32}  (kt : ¬ x6 = 0 → xw G m_Law_law F L bc bs pr px 845 [some (.ref a0), some (.ref a1), some (.ref a2), some (.ref a3), some (.ref a4), some (.int x5), none, none, none] [] h) (kf : x6 = 0 → xw G m_Law_law F L bc bs pr px 833 [some (.ref a0), some (.ref a1), some (.ref a2), some (.ref a3), some (.ref a4), some (.int x5), none, some (.int x7), none] [] h) : xw G m_Law_law F L bc bs pr px 828 [some (.ref a0), some (.ref a1), some (.ref a2), some (.ref a3), some (.ref a4), some (.int x5), some (.int x6), some (.int x7), none] [] h := by
  refine x_iload d_Law_law_828 rfl ?_
  refine x_if_ne (tgt := 845) d_Law_law_830 (by decide) (fun hc => ?_) (fun hc => ?_)
  · exact x_le (lv' := [some (.ref a0), some (.ref a1), some (.ref a2), some (.ref a3), some (.ref a4), some (.int x5), none, none, none]) (xw_le_s (xw_le_s (xw_le_s (xw_le_s (xw_le_s (xw_le_s (xw_le_n (xw_le_n (xw_le_n xw_le_e))))))))) (kt hc)
  · exact x_le (lv' := [some (.ref a0), some (.ref a1), some (.ref a2), some (.ref a3), some (.ref a4), some (.int x5), none, some (.int x7), none]) (xw_le_s (xw_le_s (xw_le_s (xw_le_s (xw_le_s (xw_le_s (xw_le_n (xw_le_s (xw_le_n xw_le_e))))))))) (kf hc)
theorem s_Law_law_833 {G : xw_G} {F L bc bs : Nat} {pr : Option Value → xw_A → Prop} {px : String → xw_A → Prop} {h : xw_A} {a0 : Nat} {a1 : Nat} {a2 : Nat} {a3 : Nat} {a4 : Nat} {x5 : Int32} {x7 : Int32} {n_a3 : Nat} {f_a3 : Nat → Int64} (e_a3 : h a3 = some (.inl (2, n_a3, .inr (.inl f_a3)))) (i_835 : vp_in 0 n_a3) (kt : (lg_cmp (f_a3 (0 : Int32).toNatClampNeg) x7.toInt64) = 0 → xw G m_Law_law F L bc bs pr px 845 [some (.ref a0), some (.ref a1), some (.ref a2), some (.ref a3), some (.ref a4), some (.int x5), none, none, none] [] h) (kf : ¬ (lg_cmp (f_a3 (0 : Int32).toNatClampNeg) x7.toInt64) = 0 → xw G m_Law_law F L bc bs pr px 843 [none, none, none, none, none, none, none, none, none] [] h) : xw G m_Law_law F L bc bs pr px 833 [some (.ref a0), some (.ref a1), some (.ref a2), some (.ref a3), some (.ref a4), some (.int x5), none, some (.int x7), none] [] h := by
  refine x_aload_n d_Law_law_833 rfl rfl ?_
  refine x_iconst (v := 0) d_Law_law_834 (by decide) ?_
  refine x_lald d_Law_law_835 e_a3 i_835 ?_
  refine x_iload d_Law_law_836 rfl ?_
  refine x_i2l d_Law_law_838 rfl ?_
  refine x_lcmp d_Law_law_839 ?_
  refine x_if_eq (tgt := 845) d_Law_law_840 (by decide) (fun hc => ?_) (fun hc => ?_)
  · exact x_le (lv' := [some (.ref a0), some (.ref a1), some (.ref a2), some (.ref a3), some (.ref a4), some (.int x5), none, none, none]) (xw_le_s (xw_le_s (xw_le_s (xw_le_s (xw_le_s (xw_le_s (xw_le_n (xw_le_n (xw_le_n xw_le_e))))))))) (kt hc)
  · exact x_le (lv' := [none, none, none, none, none, none, none, none, none]) (xw_le_n (xw_le_n (xw_le_n (xw_le_n (xw_le_n (xw_le_n (xw_le_n (xw_le_n (xw_le_n xw_le_e))))))))) (kf hc)
theorem s_Law_law_843 {G : xw_G} {F L bc bs : Nat} {pr : Option Value → xw_A → Prop} {px : String → xw_A → Prop} {h : xw_A}   (kr : pr (some (.int 0)) h) : xw G m_Law_law F L bc bs pr px 843 [none, none, none, none, none, none, none, none, none] [] h := by
  refine x_iconst (v := 0) d_Law_law_843 (by decide) ?_
  exact x_zret d_Law_law_844 rfl rfl kr
theorem s_Law_law_845 {G : xw_G} {F L bc bs : Nat} {pr : Option Value → xw_A → Prop} {px : String → xw_A → Prop} {h : xw_A} {a0 : Nat} {a1 : Nat} {a2 : Nat} {a3 : Nat} {a4 : Nat} {x5 : Int32}  (k : xw G m_Law_law F L bc bs pr px 1145 [some (.ref a0), some (.ref a1), some (.ref a2), some (.ref a3), some (.ref a4), some (.int x5), none, none, none] [] h) : xw G m_Law_law F L bc bs pr px 845 [some (.ref a0), some (.ref a1), some (.ref a2), some (.ref a3), some (.ref a4), some (.int x5), none, none, none] [] h := by
  refine x_goto (tgt := 1145) d_Law_law_845 (by decide) ?_
  exact k
theorem s_Law_law_848 {G : xw_G} {F L bc bs : Nat} {pr : Option Value → xw_A → Prop} {px : String → xw_A → Prop} {h : xw_A} {a0 : Nat} {a1 : Nat} {a2 : Nat} {a3 : Nat} {a4 : Nat} {x5 : Int32} {N : Nat} {xs : Nat → Int32} (hX : va_X a0 N xs G.2.2.1 G.2.2.1.heap) (i_854 : vp_in (x5 + 1) N) (i_860 : vp_in (x5 + 2) N) (kt : (xs (x5 + 2).toNatClampNeg) = 0 → xw G m_Law_law F L bc bs pr px 868 [some (.ref a0), some (.ref a1), some (.ref a2), some (.ref a3), some (.ref a4), some (.int x5), none, none, none] [.int (xs (x5 + 1).toNatClampNeg), .ref a1] h) (kf : ¬ (xs (x5 + 2).toNatClampNeg) = 0 → xw G m_Law_law F L bc bs pr px 864 [some (.ref a0), some (.ref a1), some (.ref a2), some (.ref a3), some (.ref a4), some (.int x5), none, none, none] [.int (xs (x5 + 1).toNatClampNeg), .ref a1] h) : xw G m_Law_law F L bc bs pr px 848 [some (.ref a0), some (.ref a1), some (.ref a2), some (.ref a3), some (.ref a4), some (.int x5), none, none, none] [] h := by
  refine x_aload_n d_Law_law_848 rfl rfl ?_
  refine x_aload_n d_Law_law_849 rfl rfl ?_
  refine x_iload d_Law_law_850 rfl ?_
  refine x_iconst (v := 1) d_Law_law_852 (by decide) ?_
  refine x_iadd d_Law_law_853 ?_
  refine x_sld hX d_Law_law_854 i_854 ?_
  refine x_aload_n d_Law_law_855 rfl rfl ?_
  refine x_iload d_Law_law_856 rfl ?_
  refine x_iconst (v := 2) d_Law_law_858 (by decide) ?_
  refine x_iadd d_Law_law_859 ?_
  refine x_sld hX d_Law_law_860 i_860 ?_
  refine x_if_eq (tgt := 868) d_Law_law_861 (by decide) (fun hc => ?_) (fun hc => ?_)
  · exact kt hc
  · exact kf hc
theorem s_Law_law_864 {G : xw_G} {F L bc bs : Nat} {pr : Option Value → xw_A → Prop} {px : String → xw_A → Prop} {h : xw_A} {a0 : Nat} {a1 : Nat} {a2 : Nat} {a3 : Nat} {a4 : Nat} {x5 : Int32} {y0 : Int32}  (k : xw G m_Law_law F L bc bs pr px 869 [some (.ref a0), some (.ref a1), some (.ref a2), some (.ref a3), some (.ref a4), some (.int x5), none, none, none] [.int 1, .int y0, .ref a1] h) : xw G m_Law_law F L bc bs pr px 864 [some (.ref a0), some (.ref a1), some (.ref a2), some (.ref a3), some (.ref a4), some (.int x5), none, none, none] [.int y0, .ref a1] h := by
  refine x_iconst (v := 1) d_Law_law_864 (by decide) ?_
  refine x_goto (tgt := 869) d_Law_law_865 (by decide) ?_
  exact k
theorem s_Law_law_868 {G : xw_G} {F L bc bs : Nat} {pr : Option Value → xw_A → Prop} {px : String → xw_A → Prop} {h : xw_A} {a0 : Nat} {a1 : Nat} {a2 : Nat} {a3 : Nat} {a4 : Nat} {x5 : Int32} {y0 : Int32}  (k : xw G m_Law_law F L bc bs pr px 869 [some (.ref a0), some (.ref a1), some (.ref a2), some (.ref a3), some (.ref a4), some (.int x5), none, none, none] [.int 0, .int y0, .ref a1] h) : xw G m_Law_law F L bc bs pr px 868 [some (.ref a0), some (.ref a1), some (.ref a2), some (.ref a3), some (.ref a4), some (.int x5), none, none, none] [.int y0, .ref a1] h := by
  refine x_iconst (v := 0) d_Law_law_868 (by decide) ?_
  exact k
theorem s_Law_law_869 {G : xw_G} {F L bc bs : Nat} {pr : Option Value → xw_A → Prop} {px : String → xw_A → Prop} {h : xw_A} {a0 : Nat} {a1 : Nat} {a2 : Nat} {a3 : Nat} {a4 : Nat} {x5 : Int32} {y0 : Int32} {y1 : Int32}  (k : xw G m_Law_law F L bc bs pr px 871 [some (.ref a0), some (.ref a1), some (.ref a2), some (.ref a3), some (.ref a4), some (.int x5), none, none, none] [.ref a4, .int y0, .int y1, .ref a1] h) : xw G m_Law_law F L bc bs pr px 869 [some (.ref a0), some (.ref a1), some (.ref a2), some (.ref a3), some (.ref a4), some (.int x5), none, none, none] [.int y0, .int y1, .ref a1] h := by
  refine x_aload d_Law_law_869 rfl ?_
  exact k
theorem s_Law_law_874 {G : xw_G} {F L bc bs : Nat} {pr : Option Value → xw_A → Prop} {px : String → xw_A → Prop} {h : xw_A} {a0 : Nat} {a1 : Nat} {a2 : Nat} {a3 : Nat} {a4 : Nat} {x5 : Int32} {y0 : Int32} {N : Nat} {xs : Nat → Int32} (hX : va_X a0 N xs G.2.2.1 G.2.2.1.heap) (i_882 : vp_in (x5 + 1) N) (i_888 : vp_in (x5 + 2) N) (kt : (xs (x5 + 2).toNatClampNeg) = 0 → xw G m_Law_law F L bc bs pr px 896 [some (.ref a0), some (.ref a1), some (.ref a2), some (.ref a3), some (.ref a4), some (.int x5), some (.int y0), none, none] [.int (xs (x5 + 1).toNatClampNeg), .ref a2] h) (kf : ¬ (xs (x5 + 2).toNatClampNeg) = 0 → xw G m_Law_law F L bc bs pr px 892 [some (.ref a0), some (.ref a1), some (.ref a2), some (.ref a3), some (.ref a4), some (.int x5), some (.int y0), none, none] [.int (xs (x5 + 1).toNatClampNeg), .ref a2] h) : xw G m_Law_law F L bc bs pr px 874 [some (.ref a0), some (.ref a1), some (.ref a2), some (.ref a3), some (.ref a4), some (.int x5), none, none, none] [.int y0] h := by
  refine x_istore d_Law_law_874 (by decide) rfl ?_
  show xw G m_Law_law F L bc bs pr px 876 [some (.ref a0), some (.ref a1), some (.ref a2), some (.ref a3), some (.ref a4), some (.int x5), some (.int y0), none, none] [] h
  refine x_aload_n d_Law_law_876 rfl rfl ?_
  refine x_aload_n d_Law_law_877 rfl rfl ?_
  refine x_iload d_Law_law_878 rfl ?_
  refine x_iconst (v := 1) d_Law_law_880 (by decide) ?_
  refine x_iadd d_Law_law_881 ?_
  refine x_sld hX d_Law_law_882 i_882 ?_
  refine x_aload_n d_Law_law_883 rfl rfl ?_
  refine x_iload d_Law_law_884 rfl ?_
  refine x_iconst (v := 2) d_Law_law_886 (by decide) ?_
  refine x_iadd d_Law_law_887 ?_
  refine x_sld hX d_Law_law_888 i_888 ?_
  refine x_if_eq (tgt := 896) d_Law_law_889 (by decide) (fun hc => ?_) (fun hc => ?_)
  · exact kt hc
  · exact kf hc
theorem s_Law_law_892 {G : xw_G} {F L bc bs : Nat} {pr : Option Value → xw_A → Prop} {px : String → xw_A → Prop} {h : xw_A} {a0 : Nat} {a1 : Nat} {a2 : Nat} {a3 : Nat} {a4 : Nat} {x5 : Int32} {x6 : Int32} {y0 : Int32}  (k : xw G m_Law_law F L bc bs pr px 897 [some (.ref a0), some (.ref a1), some (.ref a2), some (.ref a3), some (.ref a4), some (.int x5), some (.int x6), none, none] [.int 1, .int y0, .ref a2] h) : xw G m_Law_law F L bc bs pr px 892 [some (.ref a0), some (.ref a1), some (.ref a2), some (.ref a3), some (.ref a4), some (.int x5), some (.int x6), none, none] [.int y0, .ref a2] h := by
  refine x_iconst (v := 1) d_Law_law_892 (by decide) ?_
  refine x_goto (tgt := 897) d_Law_law_893 (by decide) ?_
  exact k
theorem s_Law_law_896 {G : xw_G} {F L bc bs : Nat} {pr : Option Value → xw_A → Prop} {px : String → xw_A → Prop} {h : xw_A} {a0 : Nat} {a1 : Nat} {a2 : Nat} {a3 : Nat} {a4 : Nat} {x5 : Int32} {x6 : Int32} {y0 : Int32}  (k : xw G m_Law_law F L bc bs pr px 897 [some (.ref a0), some (.ref a1), some (.ref a2), some (.ref a3), some (.ref a4), some (.int x5), some (.int x6), none, none] [.int 0, .int y0, .ref a2] h) : xw G m_Law_law F L bc bs pr px 896 [some (.ref a0), some (.ref a1), some (.ref a2), some (.ref a3), some (.ref a4), some (.int x5), some (.int x6), none, none] [.int y0, .ref a2] h := by
  refine x_iconst (v := 0) d_Law_law_896 (by decide) ?_
  exact k
theorem s_Law_law_900 {G : xw_G} {F L bc bs : Nat} {pr : Option Value → xw_A → Prop} {px : String → xw_A → Prop} {h : xw_A} {a0 : Nat} {a1 : Nat} {a2 : Nat} {a3 : Nat} {a4 : Nat} {x5 : Int32} {x6 : Int32} {y0 : UInt64}  (k : xw G m_Law_law F L bc bs pr px 903 [some (.ref a0), some (.ref a1), some (.ref a2), some (.ref a3), some (.ref a4), some (.int x5), some (.int x6), some (.double y0), none] [.ref a2] h) : xw G m_Law_law F L bc bs pr px 900 [some (.ref a0), some (.ref a1), some (.ref a2), some (.ref a3), some (.ref a4), some (.int x5), some (.int x6), none, none] [.double y0] h := by
  refine x_dstore d_Law_law_900 (by decide) rfl ?_
  show xw G m_Law_law F L bc bs pr px 902 [some (.ref a0), some (.ref a1), some (.ref a2), some (.ref a3), some (.ref a4), some (.int x5), some (.int x6), some (.double y0), none] [] h
  refine x_aload_n d_Law_law_902 rfl rfl ?_
  exact k
theorem s_Law_law_906 {G : xw_G} {F L bc bs : Nat} {pr : Option Value → xw_A → Prop} {px : String → xw_A → Prop} {h : xw_A} {a0 : Nat} {a1 : Nat} {a2 : Nat} {a3 : Nat} {a4 : Nat} {x5 : Int32} {x6 : Int32} {x7 : UInt64} {y0 : Int32}  (kt : y0 = x6 → xw G m_Law_law F L bc bs pr px 913 [some (.ref a0), some (.ref a1), some (.ref a2), some (.ref a3), some (.ref a4), some (.int x5), some (.int x6), some (.double x7), none] [] h) (kf : ¬ y0 = x6 → xw G m_Law_law F L bc bs pr px 911 [none, none, none, none, none, none, none, none, none] [] h) : xw G m_Law_law F L bc bs pr px 906 [some (.ref a0), some (.ref a1), some (.ref a2), some (.ref a3), some (.ref a4), some (.int x5), some (.int x6), some (.double x7), none] [.int y0] h := by
  refine x_iload d_Law_law_906 rfl ?_
  refine x_icmp_eq (tgt := 913) d_Law_law_908 (by decide) (fun hc => ?_) (fun hc => ?_)
  · exact kt hc
  · exact x_le (lv' := [none, none, none, none, none, none, none, none, none]) (xw_le_n (xw_le_n (xw_le_n (xw_le_n (xw_le_n (xw_le_n (xw_le_n (xw_le_n (xw_le_n xw_le_e))))))))) (kf hc)
theorem s_Law_law_911 {G : xw_G} {F L bc bs : Nat} {pr : Option Value → xw_A → Prop} {px : String → xw_A → Prop} {h : xw_A}   (kr : pr (some (.int 0)) h) : xw G m_Law_law F L bc bs pr px 911 [none, none, none, none, none, none, none, none, none] [] h := by
  refine x_iconst (v := 0) d_Law_law_911 (by decide) ?_
  exact x_zret d_Law_law_912 rfl rfl kr
theorem s_Law_law_913 {G : xw_G} {F L bc bs : Nat} {pr : Option Value → xw_A → Prop} {px : String → xw_A → Prop} {h : xw_A} {a0 : Nat} {a1 : Nat} {a2 : Nat} {a3 : Nat} {a4 : Nat} {x5 : Int32} {x6 : Int32} {x7 : UInt64}  (kt : ¬ x6 = 0 → xw G m_Law_law F L bc bs pr px 950 [some (.ref a0), some (.ref a1), some (.ref a2), some (.ref a3), some (.ref a4), some (.int x5), none, none, none] [] h) (kf : x6 = 0 → xw G m_Law_law F L bc bs pr px 918 [some (.ref a0), some (.ref a1), some (.ref a2), some (.ref a3), some (.ref a4), some (.int x5), none, some (.double x7), none] [] h) : xw G m_Law_law F L bc bs pr px 913 [some (.ref a0), some (.ref a1), some (.ref a2), some (.ref a3), some (.ref a4), some (.int x5), some (.int x6), some (.double x7), none] [] h := by
  refine x_iload d_Law_law_913 rfl ?_
  refine x_if_ne (tgt := 950) d_Law_law_915 (by decide) (fun hc => ?_) (fun hc => ?_)
  · exact x_le (lv' := [some (.ref a0), some (.ref a1), some (.ref a2), some (.ref a3), some (.ref a4), some (.int x5), none, none, none]) (xw_le_s (xw_le_s (xw_le_s (xw_le_s (xw_le_s (xw_le_s (xw_le_n (xw_le_n (xw_le_n xw_le_e))))))))) (kt hc)
  · exact x_le (lv' := [some (.ref a0), some (.ref a1), some (.ref a2), some (.ref a3), some (.ref a4), some (.int x5), none, some (.double x7), none]) (xw_le_s (xw_le_s (xw_le_s (xw_le_s (xw_le_s (xw_le_s (xw_le_n (xw_le_s (xw_le_n xw_le_e))))))))) (kf hc)
theorem s_Law_law_918 {G : xw_G} {F L bc bs : Nat} {pr : Option Value → xw_A → Prop} {px : String → xw_A → Prop} {h : xw_A} {a0 : Nat} {a1 : Nat} {a2 : Nat} {a3 : Nat} {a4 : Nat} {x5 : Int32} {x7 : UInt64} {n_a4 : Nat} {f_a4 : Nat → UInt64} (e_a4 : h a4 = some (.inl (3, n_a4, .inr (.inr (.inr (.inl f_a4)))))) (i_921 : vp_in 0 n_a4) (kt : (Op.cmpValue (FP.dcmp (f_a4 (0 : Int32).toNatClampNeg) x7) .l) = 0 → xw G m_Law_law F L bc bs pr px 950 [some (.ref a0), some (.ref a1), some (.ref a2), some (.ref a3), some (.ref a4), some (.int x5), none, none, none] [] h) (kf : ¬ (Op.cmpValue (FP.dcmp (f_a4 (0 : Int32).toNatClampNeg) x7) .l) = 0 → xw G m_Law_law F L bc bs pr px 928 [some (.ref a0), some (.ref a1), some (.ref a2), some (.ref a3), some (.ref a4), some (.int x5), none, some (.double x7), none] [] h) : xw G m_Law_law F L bc bs pr px 918 [some (.ref a0), some (.ref a1), some (.ref a2), some (.ref a3), some (.ref a4), some (.int x5), none, some (.double x7), none] [] h := by
  refine x_aload d_Law_law_918 rfl ?_
  refine x_iconst (v := 0) d_Law_law_920 (by decide) ?_
  refine x_dald d_Law_law_921 e_a4 i_921 ?_
  refine x_dload d_Law_law_922 rfl ?_
  refine x_dcmp d_Law_law_924 ?_
  refine x_if_eq (tgt := 950) d_Law_law_925 (by decide) (fun hc => ?_) (fun hc => ?_)
  · exact x_le (lv' := [some (.ref a0), some (.ref a1), some (.ref a2), some (.ref a3), some (.ref a4), some (.int x5), none, none, none]) (xw_le_s (xw_le_s (xw_le_s (xw_le_s (xw_le_s (xw_le_s (xw_le_n (xw_le_n (xw_le_n xw_le_e))))))))) (kt hc)
  · exact kf hc
theorem s_Law_law_928 {G : xw_G} {F L bc bs : Nat} {pr : Option Value → xw_A → Prop} {px : String → xw_A → Prop} {h : xw_A} {a0 : Nat} {a1 : Nat} {a2 : Nat} {a3 : Nat} {a4 : Nat} {x5 : Int32} {x7 : UInt64} {n_a4 : Nat} {f_a4 : Nat → UInt64} (e_a4 : h a4 = some (.inl (3, n_a4, .inr (.inr (.inr (.inl f_a4)))))) (i_931 : vp_in 0 n_a4) (i_935 : vp_in 0 n_a4) (kt : (Op.cmpValue (FP.dcmp (f_a4 (0 : Int32).toNatClampNeg) (f_a4 (0 : Int32).toNatClampNeg)) .l) = 0 → xw G m_Law_law F L bc bs pr px 948 [none, none, none, none, none, none, none, none, none] [] h) (kf : ¬ (Op.cmpValue (FP.dcmp (f_a4 (0 : Int32).toNatClampNeg) (f_a4 (0 : Int32).toNatClampNeg)) .l) = 0 → xw G m_Law_law F L bc bs pr px 940 [some (.ref a0), some (.ref a1), some (.ref a2), some (.ref a3), some (.ref a4), some (.int x5), none, some (.double x7), none] [] h) : xw G m_Law_law F L bc bs pr px 928 [some (.ref a0), some (.ref a1), some (.ref a2), some (.ref a3), some (.ref a4), some (.int x5), none, some (.double x7), none] [] h := by
  refine x_aload d_Law_law_928 rfl ?_
  refine x_iconst (v := 0) d_Law_law_930 (by decide) ?_
  refine x_dald d_Law_law_931 e_a4 i_931 ?_
  refine x_aload d_Law_law_932 rfl ?_
  refine x_iconst (v := 0) d_Law_law_934 (by decide) ?_
  refine x_dald d_Law_law_935 e_a4 i_935 ?_
  refine x_dcmp d_Law_law_936 ?_
  refine x_if_eq (tgt := 948) d_Law_law_937 (by decide) (fun hc => ?_) (fun hc => ?_)
  · exact x_le (lv' := [none, none, none, none, none, none, none, none, none]) (xw_le_n (xw_le_n (xw_le_n (xw_le_n (xw_le_n (xw_le_n (xw_le_n (xw_le_n (xw_le_n xw_le_e))))))))) (kt hc)
  · exact kf hc
theorem s_Law_law_940 {G : xw_G} {F L bc bs : Nat} {pr : Option Value → xw_A → Prop} {px : String → xw_A → Prop} {h : xw_A} {a0 : Nat} {a1 : Nat} {a2 : Nat} {a3 : Nat} {a4 : Nat} {x5 : Int32} {x7 : UInt64}  (kt : ¬ (Op.cmpValue (FP.dcmp x7 x7) .l) = 0 → xw G m_Law_law F L bc bs pr px 950 [some (.ref a0), some (.ref a1), some (.ref a2), some (.ref a3), some (.ref a4), some (.int x5), none, none, none] [] h) (kf : (Op.cmpValue (FP.dcmp x7 x7) .l) = 0 → xw G m_Law_law F L bc bs pr px 948 [none, none, none, none, none, none, none, none, none] [] h) : xw G m_Law_law F L bc bs pr px 940 [some (.ref a0), some (.ref a1), some (.ref a2), some (.ref a3), some (.ref a4), some (.int x5), none, some (.double x7), none] [] h := by
  refine x_dload d_Law_law_940 rfl ?_
  refine x_dload d_Law_law_942 rfl ?_
  refine x_dcmp d_Law_law_944 ?_
  refine x_if_ne (tgt := 950) d_Law_law_945 (by decide) (fun hc => ?_) (fun hc => ?_)
  · exact x_le (lv' := [some (.ref a0), some (.ref a1), some (.ref a2), some (.ref a3), some (.ref a4), some (.int x5), none, none, none]) (xw_le_s (xw_le_s (xw_le_s (xw_le_s (xw_le_s (xw_le_s (xw_le_n (xw_le_n (xw_le_n xw_le_e))))))))) (kt hc)
  · exact x_le (lv' := [none, none, none, none, none, none, none, none, none]) (xw_le_n (xw_le_n (xw_le_n (xw_le_n (xw_le_n (xw_le_n (xw_le_n (xw_le_n (xw_le_n xw_le_e))))))))) (kf hc)
theorem s_Law_law_948 {G : xw_G} {F L bc bs : Nat} {pr : Option Value → xw_A → Prop} {px : String → xw_A → Prop} {h : xw_A}   (kr : pr (some (.int 0)) h) : xw G m_Law_law F L bc bs pr px 948 [none, none, none, none, none, none, none, none, none] [] h := by
  refine x_iconst (v := 0) d_Law_law_948 (by decide) ?_
  exact x_zret d_Law_law_949 rfl rfl kr
theorem s_Law_law_950 {G : xw_G} {F L bc bs : Nat} {pr : Option Value → xw_A → Prop} {px : String → xw_A → Prop} {h : xw_A} {a0 : Nat} {a1 : Nat} {a2 : Nat} {a3 : Nat} {a4 : Nat} {x5 : Int32}  (k : xw G m_Law_law F L bc bs pr px 1145 [some (.ref a0), some (.ref a1), some (.ref a2), some (.ref a3), some (.ref a4), some (.int x5), none, none, none] [] h) : xw G m_Law_law F L bc bs pr px 950 [some (.ref a0), some (.ref a1), some (.ref a2), some (.ref a3), some (.ref a4), some (.int x5), none, none, none] [] h := by
  refine x_goto (tgt := 1145) d_Law_law_950 (by decide) ?_
  exact k
theorem s_Law_law_953 {G : xw_G} {F L bc bs : Nat} {pr : Option Value → xw_A → Prop} {px : String → xw_A → Prop} {h : xw_A} {a0 : Nat} {a1 : Nat} {a2 : Nat} {a3 : Nat} {a4 : Nat} {x5 : Int32} {N : Nat} {xs : Nat → Int32} (hX : va_X a0 N xs G.2.2.1 G.2.2.1.heap) (i_959 : vp_in (x5 + 1) N) (i_965 : vp_in (x5 + 2) N) (k : xw G m_Law_law F L bc bs pr px 967 [some (.ref a0), some (.ref a1), some (.ref a2), some (.ref a3), some (.ref a4), some (.int x5), none, none, none] [.ref a3, .int (xs (x5 + 2).toNatClampNeg), .int (xs (x5 + 1).toNatClampNeg), .ref a1] h) : xw G m_Law_law F L bc bs pr px 953 [some (.ref a0), some (.ref a1), some (.ref a2), some (.ref a3), some (.ref a4), some (.int x5), none, none, none] [] h := by
  refine x_aload_n d_Law_law_953 rfl rfl ?_
  refine x_aload_n d_Law_law_954 rfl rfl ?_
  refine x_iload d_Law_law_955 rfl ?_
  refine x_iconst (v := 1) d_Law_law_957 (by decide) ?_
  refine x_iadd d_Law_law_958 ?_
  refine x_sld hX d_Law_law_959 i_959 ?_
  refine x_aload_n d_Law_law_960 rfl rfl ?_
  refine x_iload d_Law_law_961 rfl ?_
  refine x_iconst (v := 2) d_Law_law_963 (by decide) ?_
  refine x_iadd d_Law_law_964 ?_
  refine x_sld hX d_Law_law_965 i_965 ?_
  refine x_aload_n d_Law_law_966 rfl rfl ?_
  exact k
theorem s_Law_law_970 {G : xw_G} {F L bc bs : Nat} {pr : Option Value → xw_A → Prop} {px : String → xw_A → Prop} {h : xw_A} {a0 : Nat} {a1 : Nat} {a2 : Nat} {a3 : Nat} {a4 : Nat} {x5 : Int32} {y0 : Int32} {N : Nat} {xs : Nat → Int32} (hX : va_X a0 N xs G.2.2.1 G.2.2.1.heap) (i_978 : vp_in (x5 + 1) N) (i_984 : vp_in (x5 + 2) N) (k : xw G m_Law_law F L bc bs pr px 985 [some (.ref a0), some (.ref a1), some (.ref a2), some (.ref a3), some (.ref a4), some (.int x5), some (.int y0), none, none] [.int (xs (x5 + 2).toNatClampNeg), .int (xs (x5 + 1).toNatClampNeg), .ref a2] h) : xw G m_Law_law F L bc bs pr px 970 [some (.ref a0), some (.ref a1), some (.ref a2), some (.ref a3), some (.ref a4), some (.int x5), none, none, none] [.int y0] h := by
  refine x_istore d_Law_law_970 (by decide) rfl ?_
  show xw G m_Law_law F L bc bs pr px 972 [some (.ref a0), some (.ref a1), some (.ref a2), some (.ref a3), some (.ref a4), some (.int x5), some (.int y0), none, none] [] h
  refine x_aload_n d_Law_law_972 rfl rfl ?_
  refine x_aload_n d_Law_law_973 rfl rfl ?_
  refine x_iload d_Law_law_974 rfl ?_
  refine x_iconst (v := 1) d_Law_law_976 (by decide) ?_
  refine x_iadd d_Law_law_977 ?_
  refine x_sld hX d_Law_law_978 i_978 ?_
  refine x_aload_n d_Law_law_979 rfl rfl ?_
  refine x_iload d_Law_law_980 rfl ?_
  refine x_iconst (v := 2) d_Law_law_982 (by decide) ?_
  refine x_iadd d_Law_law_983 ?_
  refine x_sld hX d_Law_law_984 i_984 ?_
  exact k
theorem s_Law_law_988 {G : xw_G} {F L bc bs : Nat} {pr : Option Value → xw_A → Prop} {px : String → xw_A → Prop} {h : xw_A} {a0 : Nat} {a1 : Nat} {a2 : Nat} {a3 : Nat} {a4 : Nat} {x5 : Int32} {x6 : Int32} {y0 : Int32}  (k : xw G m_Law_law F L bc bs pr px 991 [some (.ref a0), some (.ref a1), some (.ref a2), some (.ref a3), some (.ref a4), some (.int x5), some (.int x6), some (.int y0), none] [.ref a2] h) : xw G m_Law_law F L bc bs pr px 988 [some (.ref a0), some (.ref a1), some (.ref a2), some (.ref a3), some (.ref a4), some (.int x5), some (.int x6), none, none] [.int y0] h := by
  refine x_istore d_Law_law_988 (by decide) rfl ?_
  show xw G m_Law_law F L bc bs pr px 990 [some (.ref a0), some (.ref a1), some (.ref a2), some (.ref a3), some (.ref a4), some (.int x5), some (.int x6), some (.int y0), none] [] h
  refine x_aload_n d_Law_law_990 rfl rfl ?_
  exact k
theorem s_Law_law_994 {G : xw_G} {F L bc bs : Nat} {pr : Option Value → xw_A → Prop} {px : String → xw_A → Prop} {h : xw_A} {a0 : Nat} {a1 : Nat} {a2 : Nat} {a3 : Nat} {a4 : Nat} {x5 : Int32} {x6 : Int32} {x7 : Int32} {y0 : Int32}  (kt : y0 = x6 → xw G m_Law_law F L bc bs pr px 1001 [some (.ref a0), some (.ref a1), some (.ref a2), some (.ref a3), some (.ref a4), some (.int x5), some (.int x6), some (.int x7), none] [] h) (kf : ¬ y0 = x6 → xw G m_Law_law F L bc bs pr px 999 [none, none, none, none, none, none, none, none, none] [] h) : xw G m_Law_law F L bc bs pr px 994 [some (.ref a0), some (.ref a1), some (.ref a2), some (.ref a3), some (.ref a4), some (.int x5), some (.int x6), some (.int x7), none] [.int y0] h := by
  refine x_iload d_Law_law_994 rfl ?_
  refine x_icmp_eq (tgt := 1001) d_Law_law_996 (by decide) (fun hc => ?_) (fun hc => ?_)
  · exact kt hc
  · exact x_le (lv' := [none, none, none, none, none, none, none, none, none]) (xw_le_n (xw_le_n (xw_le_n (xw_le_n (xw_le_n (xw_le_n (xw_le_n (xw_le_n (xw_le_n xw_le_e))))))))) (kf hc)
theorem s_Law_law_999 {G : xw_G} {F L bc bs : Nat} {pr : Option Value → xw_A → Prop} {px : String → xw_A → Prop} {h : xw_A}   (kr : pr (some (.int 0)) h) : xw G m_Law_law F L bc bs pr px 999 [none, none, none, none, none, none, none, none, none] [] h := by
  refine x_iconst (v := 0) d_Law_law_999 (by decide) ?_
  exact x_zret d_Law_law_1000 rfl rfl kr
theorem s_Law_law_1001 {G : xw_G} {F L bc bs : Nat} {pr : Option Value → xw_A → Prop} {px : String → xw_A → Prop} {h : xw_A} {a0 : Nat} {a1 : Nat} {a2 : Nat} {a3 : Nat} {a4 : Nat} {x5 : Int32} {x6 : Int32} {x7 : Int32}  (kt : ¬ x6 = 0 → xw G m_Law_law F L bc bs pr px 1018 [some (.ref a0), some (.ref a1), some (.ref a2), some (.ref a3), some (.ref a4), some (.int x5), none, none, none] [] h) (kf : x6 = 0 → xw G m_Law_law F L bc bs pr px 1006 [some (.ref a0), some (.ref a1), some (.ref a2), some (.ref a3), some (.ref a4), some (.int x5), none, some (.int x7), none] [] h) : xw G m_Law_law F L bc bs pr px 1001 [some (.ref a0), some (.ref a1), some (.ref a2), some (.ref a3), some (.ref a4), some (.int x5), some (.int x6), some (.int x7), none] [] h := by
  refine x_iload d_Law_law_1001 rfl ?_
  refine x_if_ne (tgt := 1018) d_Law_law_1003 (by decide) (fun hc => ?_) (fun hc => ?_)
  · exact x_le (lv' := [some (.ref a0), some (.ref a1), some (.ref a2), some (.ref a3), some (.ref a4), some (.int x5), none, none, none]) (xw_le_s (xw_le_s (xw_le_s (xw_le_s (xw_le_s (xw_le_s (xw_le_n (xw_le_n (xw_le_n xw_le_e))))))))) (kt hc)
  · exact x_le (lv' := [some (.ref a0), some (.ref a1), some (.ref a2), some (.ref a3), some (.ref a4), some (.int x5), none, some (.int x7), none]) (xw_le_s (xw_le_s (xw_le_s (xw_le_s (xw_le_s (xw_le_s (xw_le_n (xw_le_s (xw_le_n xw_le_e))))))))) (kf hc)
theorem s_Law_law_1006 {G : xw_G} {F L bc bs : Nat} {pr : Option Value → xw_A → Prop} {px : String → xw_A → Prop} {h : xw_A} {a0 : Nat} {a1 : Nat} {a2 : Nat} {a3 : Nat} {a4 : Nat} {x5 : Int32} {x7 : Int32} {n_a3 : Nat} {f_a3 : Nat → Int64} (e_a3 : h a3 = some (.inl (2, n_a3, .inr (.inl f_a3)))) (i_1008 : vp_in 0 n_a3) (kt : (lg_cmp (f_a3 (0 : Int32).toNatClampNeg) x7.toInt64) = 0 → xw G m_Law_law F L bc bs pr px 1018 [some (.ref a0), some (.ref a1), some (.ref a2), some (.ref a3), some (.ref a4), some (.int x5), none, none, none] [] h) (kf : ¬ (lg_cmp (f_a3 (0 : Int32).toNatClampNeg) x7.toInt64) = 0 → xw G m_Law_law F L bc bs pr px 1016 [none, none, none, none, none, none, none, none, none] [] h) : xw G m_Law_law F L bc bs pr px 1006 [some (.ref a0), some (.ref a1), some (.ref a2), some (.ref a3), some (.ref a4), some (.int x5), none, some (.int x7), none] [] h := by
  refine x_aload_n d_Law_law_1006 rfl rfl ?_
  refine x_iconst (v := 0) d_Law_law_1007 (by decide) ?_
  refine x_lald d_Law_law_1008 e_a3 i_1008 ?_
  refine x_iload d_Law_law_1009 rfl ?_
  refine x_i2l d_Law_law_1011 rfl ?_
  refine x_lcmp d_Law_law_1012 ?_
  refine x_if_eq (tgt := 1018) d_Law_law_1013 (by decide) (fun hc => ?_) (fun hc => ?_)
  · exact x_le (lv' := [some (.ref a0), some (.ref a1), some (.ref a2), some (.ref a3), some (.ref a4), some (.int x5), none, none, none]) (xw_le_s (xw_le_s (xw_le_s (xw_le_s (xw_le_s (xw_le_s (xw_le_n (xw_le_n (xw_le_n xw_le_e))))))))) (kt hc)
  · exact x_le (lv' := [none, none, none, none, none, none, none, none, none]) (xw_le_n (xw_le_n (xw_le_n (xw_le_n (xw_le_n (xw_le_n (xw_le_n (xw_le_n (xw_le_n xw_le_e))))))))) (kf hc)
theorem s_Law_law_1016 {G : xw_G} {F L bc bs : Nat} {pr : Option Value → xw_A → Prop} {px : String → xw_A → Prop} {h : xw_A}   (kr : pr (some (.int 0)) h) : xw G m_Law_law F L bc bs pr px 1016 [none, none, none, none, none, none, none, none, none] [] h := by
  refine x_iconst (v := 0) d_Law_law_1016 (by decide) ?_
  exact x_zret d_Law_law_1017 rfl rfl kr
theorem s_Law_law_1018 {G : xw_G} {F L bc bs : Nat} {pr : Option Value → xw_A → Prop} {px : String → xw_A → Prop} {h : xw_A} {a0 : Nat} {a1 : Nat} {a2 : Nat} {a3 : Nat} {a4 : Nat} {x5 : Int32}  (k : xw G m_Law_law F L bc bs pr px 1145 [some (.ref a0), some (.ref a1), some (.ref a2), some (.ref a3), some (.ref a4), some (.int x5), none, none, none] [] h) : xw G m_Law_law F L bc bs pr px 1018 [some (.ref a0), some (.ref a1), some (.ref a2), some (.ref a3), some (.ref a4), some (.int x5), none, none, none] [] h := by
  refine x_goto (tgt := 1145) d_Law_law_1018 (by decide) ?_
  exact k
theorem s_Law_law_1021 {G : xw_G} {F L bc bs : Nat} {pr : Option Value → xw_A → Prop} {px : String → xw_A → Prop} {h : xw_A} {a0 : Nat} {a1 : Nat} {a2 : Nat} {a3 : Nat} {a4 : Nat} {x5 : Int32} {N : Nat} {xs : Nat → Int32} (hX : va_X a0 N xs G.2.2.1 G.2.2.1.heap) (i_1027 : vp_in (x5 + 1) N) (i_1033 : vp_in (x5 + 2) N) (k : xw G m_Law_law F L bc bs pr px 1035 [some (.ref a0), some (.ref a1), some (.ref a2), some (.ref a3), some (.ref a4), some (.int x5), none, none, none] [.ref a3, .int (xs (x5 + 2).toNatClampNeg), .int (xs (x5 + 1).toNatClampNeg), .ref a1] h) : xw G m_Law_law F L bc bs pr px 1021 [some (.ref a0), some (.ref a1), some (.ref a2), some (.ref a3), some (.ref a4), some (.int x5), none, none, none] [] h := by
  refine x_aload_n d_Law_law_1021 rfl rfl ?_
  refine x_aload_n d_Law_law_1022 rfl rfl ?_
  refine x_iload d_Law_law_1023 rfl ?_
  refine x_iconst (v := 1) d_Law_law_1025 (by decide) ?_
  refine x_iadd d_Law_law_1026 ?_
  refine x_sld hX d_Law_law_1027 i_1027 ?_
  refine x_aload_n d_Law_law_1028 rfl rfl ?_
  refine x_iload d_Law_law_1029 rfl ?_
  refine x_iconst (v := 2) d_Law_law_1031 (by decide) ?_
  refine x_iadd d_Law_law_1032 ?_
  refine x_sld hX d_Law_law_1033 i_1033 ?_
  refine x_aload_n d_Law_law_1034 rfl rfl ?_
  exact k
theorem s_Law_law_1038 {G : xw_G} {F L bc bs : Nat} {pr : Option Value → xw_A → Prop} {px : String → xw_A → Prop} {h : xw_A} {a0 : Nat} {a1 : Nat} {a2 : Nat} {a3 : Nat} {a4 : Nat} {x5 : Int32} {y0 : Int32} {N : Nat} {xs : Nat → Int32} (hX : va_X a0 N xs G.2.2.1 G.2.2.1.heap) (i_1046 : vp_in (x5 + 1) N) (i_1052 : vp_in (x5 + 2) N) (k : xw G m_Law_law F L bc bs pr px 1053 [some (.ref a0), some (.ref a1), some (.ref a2), some (.ref a3), some (.ref a4), some (.int x5), some (.int y0), none, none] [.int (xs (x5 + 2).toNatClampNeg), .int (xs (x5 + 1).toNatClampNeg), .ref a2] h) : xw G m_Law_law F L bc bs pr px 1038 [some (.ref a0), some (.ref a1), some (.ref a2), some (.ref a3), some (.ref a4), some (.int x5), none, none, none] [.int y0] h := by
  refine x_istore d_Law_law_1038 (by decide) rfl ?_
  show xw G m_Law_law F L bc bs pr px 1040 [some (.ref a0), some (.ref a1), some (.ref a2), some (.ref a3), some (.ref a4), some (.int x5), some (.int y0), none, none] [] h
  refine x_aload_n d_Law_law_1040 rfl rfl ?_
  refine x_aload_n d_Law_law_1041 rfl rfl ?_
  refine x_iload d_Law_law_1042 rfl ?_
  refine x_iconst (v := 1) d_Law_law_1044 (by decide) ?_
  refine x_iadd d_Law_law_1045 ?_
  refine x_sld hX d_Law_law_1046 i_1046 ?_
  refine x_aload_n d_Law_law_1047 rfl rfl ?_
  refine x_iload d_Law_law_1048 rfl ?_
  refine x_iconst (v := 2) d_Law_law_1050 (by decide) ?_
  refine x_iadd d_Law_law_1051 ?_
  refine x_sld hX d_Law_law_1052 i_1052 ?_
  exact k
theorem s_Law_law_1056 {G : xw_G} {F L bc bs : Nat} {pr : Option Value → xw_A → Prop} {px : String → xw_A → Prop} {h : xw_A} {a0 : Nat} {a1 : Nat} {a2 : Nat} {a3 : Nat} {a4 : Nat} {x5 : Int32} {x6 : Int32} {y0 : Int32}  (k : xw G m_Law_law F L bc bs pr px 1059 [some (.ref a0), some (.ref a1), some (.ref a2), some (.ref a3), some (.ref a4), some (.int x5), some (.int x6), some (.int y0), none] [.ref a2] h) : xw G m_Law_law F L bc bs pr px 1056 [some (.ref a0), some (.ref a1), some (.ref a2), some (.ref a3), some (.ref a4), some (.int x5), some (.int x6), none, none] [.int y0] h := by
  refine x_istore d_Law_law_1056 (by decide) rfl ?_
  show xw G m_Law_law F L bc bs pr px 1058 [some (.ref a0), some (.ref a1), some (.ref a2), some (.ref a3), some (.ref a4), some (.int x5), some (.int x6), some (.int y0), none] [] h
  refine x_aload_n d_Law_law_1058 rfl rfl ?_
  exact k
theorem s_Law_law_1062 {G : xw_G} {F L bc bs : Nat} {pr : Option Value → xw_A → Prop} {px : String → xw_A → Prop} {h : xw_A} {a0 : Nat} {a1 : Nat} {a2 : Nat} {a3 : Nat} {a4 : Nat} {x5 : Int32} {x6 : Int32} {x7 : Int32} {y0 : Int32}  (kt : y0 = x6 → xw G m_Law_law F L bc bs pr px 1069 [some (.ref a0), some (.ref a1), some (.ref a2), some (.ref a3), some (.ref a4), some (.int x5), some (.int x6), some (.int x7), none] [] h) (kf : ¬ y0 = x6 → xw G m_Law_law F L bc bs pr px 1067 [none, none, none, none, none, none, none, none, none] [] h) : xw G m_Law_law F L bc bs pr px 1062 [some (.ref a0), some (.ref a1), some (.ref a2), some (.ref a3), some (.ref a4), some (.int x5), some (.int x6), some (.int x7), none] [.int y0] h := by
  refine x_iload d_Law_law_1062 rfl ?_
  refine x_icmp_eq (tgt := 1069) d_Law_law_1064 (by decide) (fun hc => ?_) (fun hc => ?_)
  · exact kt hc
  · exact x_le (lv' := [none, none, none, none, none, none, none, none, none]) (xw_le_n (xw_le_n (xw_le_n (xw_le_n (xw_le_n (xw_le_n (xw_le_n (xw_le_n (xw_le_n xw_le_e))))))))) (kf hc)
theorem s_Law_law_1067 {G : xw_G} {F L bc bs : Nat} {pr : Option Value → xw_A → Prop} {px : String → xw_A → Prop} {h : xw_A}   (kr : pr (some (.int 0)) h) : xw G m_Law_law F L bc bs pr px 1067 [none, none, none, none, none, none, none, none, none] [] h := by
  refine x_iconst (v := 0) d_Law_law_1067 (by decide) ?_
  exact x_zret d_Law_law_1068 rfl rfl kr
theorem s_Law_law_1069 {G : xw_G} {F L bc bs : Nat} {pr : Option Value → xw_A → Prop} {px : String → xw_A → Prop} {h : xw_A} {a0 : Nat} {a1 : Nat} {a2 : Nat} {a3 : Nat} {a4 : Nat} {x5 : Int32} {x6 : Int32} {x7 : Int32}  (kt : ¬ x6 = 0 → xw G m_Law_law F L bc bs pr px 1086 [some (.ref a0), some (.ref a1), some (.ref a2), some (.ref a3), some (.ref a4), some (.int x5), none, none, none] [] h) (kf : x6 = 0 → xw G m_Law_law F L bc bs pr px 1074 [some (.ref a0), some (.ref a1), some (.ref a2), some (.ref a3), some (.ref a4), some (.int x5), none, some (.int x7), none] [] h) : xw G m_Law_law F L bc bs pr px 1069 [some (.ref a0), some (.ref a1), some (.ref a2), some (.ref a3), some (.ref a4), some (.int x5), some (.int x6), some (.int x7), none] [] h := by
  refine x_iload d_Law_law_1069 rfl ?_
  refine x_if_ne (tgt := 1086) d_Law_law_1071 (by decide) (fun hc => ?_) (fun hc => ?_)
  · exact x_le (lv' := [some (.ref a0), some (.ref a1), some (.ref a2), some (.ref a3), some (.ref a4), some (.int x5), none, none, none]) (xw_le_s (xw_le_s (xw_le_s (xw_le_s (xw_le_s (xw_le_s (xw_le_n (xw_le_n (xw_le_n xw_le_e))))))))) (kt hc)
  · exact x_le (lv' := [some (.ref a0), some (.ref a1), some (.ref a2), some (.ref a3), some (.ref a4), some (.int x5), none, some (.int x7), none]) (xw_le_s (xw_le_s (xw_le_s (xw_le_s (xw_le_s (xw_le_s (xw_le_n (xw_le_s (xw_le_n xw_le_e))))))))) (kf hc)
theorem s_Law_law_1074 {G : xw_G} {F L bc bs : Nat} {pr : Option Value → xw_A → Prop} {px : String → xw_A → Prop} {h : xw_A} {a0 : Nat} {a1 : Nat} {a2 : Nat} {a3 : Nat} {a4 : Nat} {x5 : Int32} {x7 : Int32} {n_a3 : Nat} {f_a3 : Nat → Int64} (e_a3 : h a3 = some (.inl (2, n_a3, .inr (.inl f_a3)))) (i_1076 : vp_in 0 n_a3) (kt : (lg_cmp (f_a3 (0 : Int32).toNatClampNeg) x7.toInt64) = 0 → xw G m_Law_law F L bc bs pr px 1086 [some (.ref a0), some (.ref a1), some (.ref a2), some (.ref a3), some (.ref a4), some (.int x5), none, none, none] [] h) (kf : ¬ (lg_cmp (f_a3 (0 : Int32).toNatClampNeg) x7.toInt64) = 0 → xw G m_Law_law F L bc bs pr px 1084 [none, none, none, none, none, none, none, none, none] [] h) : xw G m_Law_law F L bc bs pr px 1074 [some (.ref a0), some (.ref a1), some (.ref a2), some (.ref a3), some (.ref a4), some (.int x5), none, some (.int x7), none] [] h := by
  refine x_aload_n d_Law_law_1074 rfl rfl ?_
  refine x_iconst (v := 0) d_Law_law_1075 (by decide) ?_
  refine x_lald d_Law_law_1076 e_a3 i_1076 ?_
  refine x_iload d_Law_law_1077 rfl ?_
  refine x_i2l d_Law_law_1079 rfl ?_
  refine x_lcmp d_Law_law_1080 ?_
  refine x_if_eq (tgt := 1086) d_Law_law_1081 (by decide) (fun hc => ?_) (fun hc => ?_)
  · exact x_le (lv' := [some (.ref a0), some (.ref a1), some (.ref a2), some (.ref a3), some (.ref a4), some (.int x5), none, none, none]) (xw_le_s (xw_le_s (xw_le_s (xw_le_s (xw_le_s (xw_le_s (xw_le_n (xw_le_n (xw_le_n xw_le_e))))))))) (kt hc)
  · exact x_le (lv' := [none, none, none, none, none, none, none, none, none]) (xw_le_n (xw_le_n (xw_le_n (xw_le_n (xw_le_n (xw_le_n (xw_le_n (xw_le_n (xw_le_n xw_le_e))))))))) (kf hc)
theorem s_Law_law_1084 {G : xw_G} {F L bc bs : Nat} {pr : Option Value → xw_A → Prop} {px : String → xw_A → Prop} {h : xw_A}   (kr : pr (some (.int 0)) h) : xw G m_Law_law F L bc bs pr px 1084 [none, none, none, none, none, none, none, none, none] [] h := by
  refine x_iconst (v := 0) d_Law_law_1084 (by decide) ?_
  exact x_zret d_Law_law_1085 rfl rfl kr
theorem s_Law_law_1086 {G : xw_G} {F L bc bs : Nat} {pr : Option Value → xw_A → Prop} {px : String → xw_A → Prop} {h : xw_A} {a0 : Nat} {a1 : Nat} {a2 : Nat} {a3 : Nat} {a4 : Nat} {x5 : Int32}  (k : xw G m_Law_law F L bc bs pr px 1145 [some (.ref a0), some (.ref a1), some (.ref a2), some (.ref a3), some (.ref a4), some (.int x5), none, none, none] [] h) : xw G m_Law_law F L bc bs pr px 1086 [some (.ref a0), some (.ref a1), some (.ref a2), some (.ref a3), some (.ref a4), some (.int x5), none, none, none] [] h := by
  refine x_goto (tgt := 1145) d_Law_law_1086 (by decide) ?_
  exact k
theorem s_Law_law_1089 {G : xw_G} {F L bc bs : Nat} {pr : Option Value → xw_A → Prop} {px : String → xw_A → Prop} {h : xw_A} {a0 : Nat} {a1 : Nat} {a2 : Nat} {a3 : Nat} {a4 : Nat} {x5 : Int32} {N : Nat} {xs : Nat → Int32} (hX : va_X a0 N xs G.2.2.1 G.2.2.1.heap) (i_1095 : vp_in (x5 + 1) N) (k : xw G m_Law_law F L bc bs pr px 1097 [some (.ref a0), some (.ref a1), some (.ref a2), some (.ref a3), some (.ref a4), some (.int x5), none, none, none] [.ref a3, .int (xs (x5 + 1).toNatClampNeg), .ref a1] h) : xw G m_Law_law F L bc bs pr px 1089 [some (.ref a0), some (.ref a1), some (.ref a2), some (.ref a3), some (.ref a4), some (.int x5), none, none, none] [] h := by
  refine x_aload_n d_Law_law_1089 rfl rfl ?_
  refine x_aload_n d_Law_law_1090 rfl rfl ?_
  refine x_iload d_Law_law_1091 rfl ?_
  refine x_iconst (v := 1) d_Law_law_1093 (by decide) ?_
  refine x_iadd d_Law_law_1094 ?_
  refine x_sld hX d_Law_law_1095 i_1095 ?_
  refine x_aload_n d_Law_law_1096 rfl rfl ?_
  exact k
theorem s_Law_law_1100 {G : xw_G} {F L bc bs : Nat} {pr : Option Value → xw_A → Prop} {px : String → xw_A → Prop} {h : xw_A} {a0 : Nat} {a1 : Nat} {a2 : Nat} {a3 : Nat} {a4 : Nat} {x5 : Int32} {y0 : Int32} {N : Nat} {xs : Nat → Int32} (hX : va_X a0 N xs G.2.2.1 G.2.2.1.heap) (i_1108 : vp_in (x5 + 1) N) (k : xw G m_Law_law F L bc bs pr px 1109 [some (.ref a0), some (.ref a1), some (.ref a2), some (.ref a3), some (.ref a4), some (.int x5), some (.int y0), none, none] [.int (xs (x5 + 1).toNatClampNeg), .ref a2] h) : xw G m_Law_law F L bc bs pr px 1100 [some (.ref a0), some (.ref a1), some (.ref a2), some (.ref a3), some (.ref a4), some (.int x5), none, none, none] [.int y0] h := by
  refine x_istore d_Law_law_1100 (by decide) rfl ?_
  show xw G m_Law_law F L bc bs pr px 1102 [some (.ref a0), some (.ref a1), some (.ref a2), some (.ref a3), some (.ref a4), some (.int x5), some (.int y0), none, none] [] h
  refine x_aload_n d_Law_law_1102 rfl rfl ?_
  refine x_aload_n d_Law_law_1103 rfl rfl ?_
  refine x_iload d_Law_law_1104 rfl ?_
  refine x_iconst (v := 1) d_Law_law_1106 (by decide) ?_
  refine x_iadd d_Law_law_1107 ?_
  refine x_sld hX d_Law_law_1108 i_1108 ?_
  exact k
theorem s_Law_law_1112 {G : xw_G} {F L bc bs : Nat} {pr : Option Value → xw_A → Prop} {px : String → xw_A → Prop} {h : xw_A} {a0 : Nat} {a1 : Nat} {a2 : Nat} {a3 : Nat} {a4 : Nat} {x5 : Int32} {x6 : Int32} {y0 : Int32}  (k : xw G m_Law_law F L bc bs pr px 1115 [some (.ref a0), some (.ref a1), some (.ref a2), some (.ref a3), some (.ref a4), some (.int x5), some (.int x6), some (.int y0), none] [.ref a2] h) : xw G m_Law_law F L bc bs pr px 1112 [some (.ref a0), some (.ref a1), some (.ref a2), some (.ref a3), some (.ref a4), some (.int x5), some (.int x6), none, none] [.int y0] h := by
  refine x_istore d_Law_law_1112 (by decide) rfl ?_
  show xw G m_Law_law F L bc bs pr px 1114 [some (.ref a0), some (.ref a1), some (.ref a2), some (.ref a3), some (.ref a4), some (.int x5), some (.int x6), some (.int y0), none] [] h
  refine x_aload_n d_Law_law_1114 rfl rfl ?_
  exact k
theorem s_Law_law_1118 {G : xw_G} {F L bc bs : Nat} {pr : Option Value → xw_A → Prop} {px : String → xw_A → Prop} {h : xw_A} {a0 : Nat} {a1 : Nat} {a2 : Nat} {a3 : Nat} {a4 : Nat} {x5 : Int32} {x6 : Int32} {x7 : Int32} {y0 : Int32}  (kt : y0 = x6 → xw G m_Law_law F L bc bs pr px 1125 [some (.ref a0), some (.ref a1), some (.ref a2), some (.ref a3), some (.ref a4), some (.int x5), some (.int x6), some (.int x7), none] [] h) (kf : ¬ y0 = x6 → xw G m_Law_law F L bc bs pr px 1123 [none, none, none, none, none, none, none, none, none] [] h) : xw G m_Law_law F L bc bs pr px 1118 [some (.ref a0), some (.ref a1), some (.ref a2), some (.ref a3), some (.ref a4), some (.int x5), some (.int x6), some (.int x7), none] [.int y0] h := by
  refine x_iload d_Law_law_1118 rfl ?_
  refine x_icmp_eq (tgt := 1125) d_Law_law_1120 (by decide) (fun hc => ?_) (fun hc => ?_)
  · exact kt hc
  · exact x_le (lv' := [none, none, none, none, none, none, none, none, none]) (xw_le_n (xw_le_n (xw_le_n (xw_le_n (xw_le_n (xw_le_n (xw_le_n (xw_le_n (xw_le_n xw_le_e))))))))) (kf hc)
theorem s_Law_law_1123 {G : xw_G} {F L bc bs : Nat} {pr : Option Value → xw_A → Prop} {px : String → xw_A → Prop} {h : xw_A}   (kr : pr (some (.int 0)) h) : xw G m_Law_law F L bc bs pr px 1123 [none, none, none, none, none, none, none, none, none] [] h := by
  refine x_iconst (v := 0) d_Law_law_1123 (by decide) ?_
  exact x_zret d_Law_law_1124 rfl rfl kr
theorem s_Law_law_1125 {G : xw_G} {F L bc bs : Nat} {pr : Option Value → xw_A → Prop} {px : String → xw_A → Prop} {h : xw_A} {a0 : Nat} {a1 : Nat} {a2 : Nat} {a3 : Nat} {a4 : Nat} {x5 : Int32} {x6 : Int32} {x7 : Int32}  (kt : ¬ x6 = 0 → xw G m_Law_law F L bc bs pr px 1142 [some (.ref a0), some (.ref a1), some (.ref a2), some (.ref a3), some (.ref a4), some (.int x5), none, none, none] [] h) (kf : x6 = 0 → xw G m_Law_law F L bc bs pr px 1130 [some (.ref a0), some (.ref a1), some (.ref a2), some (.ref a3), some (.ref a4), some (.int x5), none, some (.int x7), none] [] h) : xw G m_Law_law F L bc bs pr px 1125 [some (.ref a0), some (.ref a1), some (.ref a2), some (.ref a3), some (.ref a4), some (.int x5), some (.int x6), some (.int x7), none] [] h := by
  refine x_iload d_Law_law_1125 rfl ?_
  refine x_if_ne (tgt := 1142) d_Law_law_1127 (by decide) (fun hc => ?_) (fun hc => ?_)
  · exact x_le (lv' := [some (.ref a0), some (.ref a1), some (.ref a2), some (.ref a3), some (.ref a4), some (.int x5), none, none, none]) (xw_le_s (xw_le_s (xw_le_s (xw_le_s (xw_le_s (xw_le_s (xw_le_n (xw_le_n (xw_le_n xw_le_e))))))))) (kt hc)
  · exact x_le (lv' := [some (.ref a0), some (.ref a1), some (.ref a2), some (.ref a3), some (.ref a4), some (.int x5), none, some (.int x7), none]) (xw_le_s (xw_le_s (xw_le_s (xw_le_s (xw_le_s (xw_le_s (xw_le_n (xw_le_s (xw_le_n xw_le_e))))))))) (kf hc)
theorem s_Law_law_1130 {G : xw_G} {F L bc bs : Nat} {pr : Option Value → xw_A → Prop} {px : String → xw_A → Prop} {h : xw_A} {a0 : Nat} {a1 : Nat} {a2 : Nat} {a3 : Nat} {a4 : Nat} {x5 : Int32} {x7 : Int32} {n_a3 : Nat} {f_a3 : Nat → Int64} (e_a3 : h a3 = some (.inl (2, n_a3, .inr (.inl f_a3)))) (i_1132 : vp_in 0 n_a3) (kt : (lg_cmp (f_a3 (0 : Int32).toNatClampNeg) x7.toInt64) = 0 → xw G m_Law_law F L bc bs pr px 1142 [some (.ref a0), some (.ref a1), some (.ref a2), some (.ref a3), some (.ref a4), some (.int x5), none, none, none] [] h) (kf : ¬ (lg_cmp (f_a3 (0 : Int32).toNatClampNeg) x7.toInt64) = 0 → xw G m_Law_law F L bc bs pr px 1140 [none, none, none, none, none, none, none, none, none] [] h) : xw G m_Law_law F L bc bs pr px 1130 [some (.ref a0), some (.ref a1), some (.ref a2), some (.ref a3), some (.ref a4), some (.int x5), none, some (.int x7), none] [] h := by
  refine x_aload_n d_Law_law_1130 rfl rfl ?_
  refine x_iconst (v := 0) d_Law_law_1131 (by decide) ?_
  refine x_lald d_Law_law_1132 e_a3 i_1132 ?_
  refine x_iload d_Law_law_1133 rfl ?_
  refine x_i2l d_Law_law_1135 rfl ?_
  refine x_lcmp d_Law_law_1136 ?_
  refine x_if_eq (tgt := 1142) d_Law_law_1137 (by decide) (fun hc => ?_) (fun hc => ?_)
  · exact x_le (lv' := [some (.ref a0), some (.ref a1), some (.ref a2), some (.ref a3), some (.ref a4), some (.int x5), none, none, none]) (xw_le_s (xw_le_s (xw_le_s (xw_le_s (xw_le_s (xw_le_s (xw_le_n (xw_le_n (xw_le_n xw_le_e))))))))) (kt hc)
  · exact x_le (lv' := [none, none, none, none, none, none, none, none, none]) (xw_le_n (xw_le_n (xw_le_n (xw_le_n (xw_le_n (xw_le_n (xw_le_n (xw_le_n (xw_le_n xw_le_e))))))))) (kf hc)
theorem s_Law_law_1140 {G : xw_G} {F L bc bs : Nat} {pr : Option Value → xw_A → Prop} {px : String → xw_A → Prop} {h : xw_A}   (kr : pr (some (.int 0)) h) : xw G m_Law_law F L bc bs pr px 1140 [none, none, none, none, none, none, none, none, none] [] h := by
  refine x_iconst (v := 0) d_Law_law_1140 (by decide) ?_
  exact x_zret d_Law_law_1141 rfl rfl kr
theorem s_Law_law_1142 {G : xw_G} {F L bc bs : Nat} {pr : Option Value → xw_A → Prop} {px : String → xw_A → Prop} {h : xw_A} {a0 : Nat} {a1 : Nat} {a2 : Nat} {a3 : Nat} {a4 : Nat} {x5 : Int32}  (k : xw G m_Law_law F L bc bs pr px 1145 [some (.ref a0), some (.ref a1), some (.ref a2), some (.ref a3), some (.ref a4), some (.int x5), none, none, none] [] h) : xw G m_Law_law F L bc bs pr px 1142 [some (.ref a0), some (.ref a1), some (.ref a2), some (.ref a3), some (.ref a4), some (.int x5), none, none, none] [] h := by
  refine x_goto (tgt := 1145) d_Law_law_1142 (by decide) ?_
  exact k
theorem s_Law_law_1145 {G : xw_G} {F L bc bs : Nat} {pr : Option Value → xw_A → Prop} {px : String → xw_A → Prop} {h : xw_A} {a0 : Nat} {a1 : Nat} {a2 : Nat} {a3 : Nat} {a4 : Nat} {x5 : Int32}  (k : xw G m_Law_law F L bc bs pr px 28 [some (.ref a0), some (.ref a1), some (.ref a2), some (.ref a3), some (.ref a4), some (.int (x5 + 3)), none, none, none] [] h) : xw G m_Law_law F L bc bs pr px 1145 [some (.ref a0), some (.ref a1), some (.ref a2), some (.ref a3), some (.ref a4), some (.int x5), none, none, none] [] h := by
  refine x_iinc (v := x5 + 3) d_Law_law_1145 rfl (by rfl) (by decide) rfl ?_
  show xw G m_Law_law F L bc bs pr px 1148 [some (.ref a0), some (.ref a1), some (.ref a2), some (.ref a3), some (.ref a4), some (.int (x5 + 3)), none, none, none] [] h
  refine x_goto (tgt := 28) d_Law_law_1148 (by decide) ?_
  exact k
theorem s_Law_law_1151 {G : xw_G} {F L bc bs : Nat} {pr : Option Value → xw_A → Prop} {px : String → xw_A → Prop} {h : xw_A}   (kr : pr (some (.int 1)) h) : xw G m_Law_law F L bc bs pr px 1151 [none, none, none, none, none, none, none, none, none] [] h := by
  refine x_iconst (v := 1) d_Law_law_1151 (by decide) ?_
  exact x_zret d_Law_law_1152 rfl rfl kr
