/-! blocks of Law: by program -/
theorem s_Law_letters_0 {G : xw_G} {F L bc bs : Nat} {pr : Option Value → xw_A → Prop} {px : String → xw_A → Prop} {h : xw_A} {a0 : Nat} {x1 : Int64} {a3 : Nat}  (k : xw G m_Law_letters F L bc bs pr px 4 [some (.ref a0), some (.long x1), none, some (.ref a3), none] [.long x1, .ref a0, .int 0, .ref a3] h) : xw G m_Law_letters F L bc bs pr px 0 [some (.ref a0), some (.long x1), none, some (.ref a3), none] [] h := by
  refine x_aload_n d_Law_letters_0 rfl rfl ?_
  refine x_iconst (v := 0) d_Law_letters_1 (by decide) ?_
  refine x_aload_n d_Law_letters_2 rfl rfl ?_
  refine x_lload_n d_Law_letters_3 rfl rfl ?_
  exact k
theorem s_Law_letters_7 {G : xw_G} {F L bc bs : Nat} {pr : Option Value → xw_A → Prop} {px : String → xw_A → Prop} {h : xw_A} {y0 : Int32} {y1 : Int32} {b2 : Nat} {n_b2 : Nat} {f_b2 : Nat → Int64} (e_b2 : h b2 = some (.inl (2, n_b2, .inr (.inl f_b2)))) (i_8 : vp_in y1 n_b2) (k : xw G m_Law_letters F L bc bs pr px 20 [none, none, none, none, none] [] (xw_up h b2 (.inl (2, n_b2, .inr (.inl (vp_updL f_b2 (y1).toNatClampNeg y0.toInt64)))))) : xw G m_Law_letters F L bc bs pr px 7 [none, none, none, none, none] [.int y0, .int y1, .ref b2] h := by
  refine x_i2l d_Law_letters_7 rfl ?_
  refine x_last d_Law_letters_8 e_b2 i_8 ?_
  refine x_goto (tgt := 20) d_Law_letters_9 (by decide) ?_
  exact k
theorem s_Law_letters_12 {G : xw_G} {F L bc bs : Nat} {pr : Option Value → xw_A → Prop} {px : String → xw_A → Prop} {h : xw_A} {b0 : Nat}  (kr : pr (some (.int 1)) h) : xw G m_Law_letters F L bc bs pr px 12 [none, none, none, none, none] [.ref b0] h := by
  refine x_astore d_Law_letters_12 (by decide) trivial ?_
  show xw G m_Law_letters F L bc bs pr px 14 [none, none, none, none, some (.ref b0)] [] h
  refine x_iconst (v := 1) d_Law_letters_14 (by decide) ?_
  exact x_iret d_Law_letters_15 rfl kr
theorem s_Law_letters_16 {G : xw_G} {F L bc bs : Nat} {pr : Option Value → xw_A → Prop} {px : String → xw_A → Prop} {h : xw_A} {b0 : Nat}  (kr : pr (some (.int 2)) h) : xw G m_Law_letters F L bc bs pr px 16 [none, none, none, none, none] [.ref b0] h := by
  refine x_astore d_Law_letters_16 (by decide) trivial ?_
  show xw G m_Law_letters F L bc bs pr px 18 [none, none, none, none, some (.ref b0)] [] h
  refine x_iconst (v := 2) d_Law_letters_18 (by decide) ?_
  exact x_iret d_Law_letters_19 rfl kr
theorem s_Law_letters_20 {G : xw_G} {F L bc bs : Nat} {pr : Option Value → xw_A → Prop} {px : String → xw_A → Prop} {h : xw_A}   (kr : pr (some (.int 0)) h) : xw G m_Law_letters F L bc bs pr px 20 [none, none, none, none, none] [] h := by
  refine x_iconst (v := 0) d_Law_letters_20 (by decide) ?_
  exact x_iret d_Law_letters_21 rfl kr
theorem s_Law_set_0 {G : xw_G} {F L bc bs : Nat} {pr : Option Value → xw_A → Prop} {px : String → xw_A → Prop} {h : xw_A} {a0 : Nat} {x1 : Int32} {a2 : Nat}  (k : xw G m_Law_set F L bc bs pr px 4 [some (.ref a0), some (.int x1), some (.ref a2), none] [.int x1, .ref a0, .int 0, .ref a2] h) : xw G m_Law_set F L bc bs pr px 0 [some (.ref a0), some (.int x1), some (.ref a2), none] [] h := by
  refine x_aload_n d_Law_set_0 rfl rfl ?_
  refine x_iconst (v := 0) d_Law_set_1 (by decide) ?_
  refine x_aload_n d_Law_set_2 rfl rfl ?_
  refine x_iload_n d_Law_set_3 rfl rfl ?_
  exact k
theorem s_Law_set_7 {G : xw_G} {F L bc bs : Nat} {pr : Option Value → xw_A → Prop} {px : String → xw_A → Prop} {h : xw_A} {y0 : Int32} {y1 : Int32} {b2 : Nat} {n_b2 : Nat} {f_b2 : Nat → Int64} (e_b2 : h b2 = some (.inl (2, n_b2, .inr (.inl f_b2)))) (i_8 : vp_in y1 n_b2) (k : xw G m_Law_set F L bc bs pr px 18 [none, none, none, none] [] (xw_up h b2 (.inl (2, n_b2, .inr (.inl (vp_updL f_b2 (y1).toNatClampNeg y0.toInt64)))))) : xw G m_Law_set F L bc bs pr px 7 [none, none, none, none] [.int y0, .int y1, .ref b2] h := by
  refine x_i2l d_Law_set_7 rfl ?_
  refine x_last d_Law_set_8 e_b2 i_8 ?_
  refine x_goto (tgt := 18) d_Law_set_9 (by decide) ?_
  exact k
theorem s_Law_set_12 {G : xw_G} {F L bc bs : Nat} {pr : Option Value → xw_A → Prop} {px : String → xw_A → Prop} {h : xw_A} {b0 : Nat}  (kr : pr (some (.int 1)) h) : xw G m_Law_set F L bc bs pr px 12 [none, none, none, none] [.ref b0] h := by
  refine x_astore_n d_Law_set_12 rfl (by decide) trivial ?_
  show xw G m_Law_set F L bc bs pr px 13 [none, none, none, some (.ref b0)] [] h
  refine x_iconst (v := 1) d_Law_set_13 (by decide) ?_
  exact x_iret d_Law_set_14 rfl kr
theorem s_Law_set_15 {G : xw_G} {F L bc bs : Nat} {pr : Option Value → xw_A → Prop} {px : String → xw_A → Prop} {h : xw_A} {b0 : Nat}  (kr : pr (some (.int 2)) h) : xw G m_Law_set F L bc bs pr px 15 [none, none, none, none] [.ref b0] h := by
  refine x_astore_n d_Law_set_15 rfl (by decide) trivial ?_
  show xw G m_Law_set F L bc bs pr px 16 [none, none, none, some (.ref b0)] [] h
  refine x_iconst (v := 2) d_Law_set_16 (by decide) ?_
  exact x_iret d_Law_set_17 rfl kr
theorem s_Law_set_18 {G : xw_G} {F L bc bs : Nat} {pr : Option Value → xw_A → Prop} {px : String → xw_A → Prop} {h : xw_A}   (kr : pr (some (.int 0)) h) : xw G m_Law_set F L bc bs pr px 18 [none, none, none, none] [] h := by
  refine x_iconst (v := 0) d_Law_set_18 (by decide) ?_
  exact x_iret d_Law_set_19 rfl kr
theorem s_Law_insert_0 {G : xw_G} {F L bc bs : Nat} {pr : Option Value → xw_A → Prop} {px : String → xw_A → Prop} {h : xw_A} {a0 : Nat} {a1 : Nat}  (k : xw G m_Law_insert F L bc bs pr px 3 [some (.ref a0), some (.ref a1), none] [.ref a0, .int 0, .ref a1] h) : xw G m_Law_insert F L bc bs pr px 0 [some (.ref a0), some (.ref a1), none] [] h := by
  refine x_aload_n d_Law_insert_0 rfl rfl ?_
  refine x_iconst (v := 0) d_Law_insert_1 (by decide) ?_
  refine x_aload_n d_Law_insert_2 rfl rfl ?_
  exact k
theorem s_Law_insert_6 {G : xw_G} {F L bc bs : Nat} {pr : Option Value → xw_A → Prop} {px : String → xw_A → Prop} {h : xw_A} {y0 : Int32} {y1 : Int32} {b2 : Nat} {n_b2 : Nat} {f_b2 : Nat → Int64} (e_b2 : h b2 = some (.inl (2, n_b2, .inr (.inl f_b2)))) (i_7 : vp_in y1 n_b2) (k : xw G m_Law_insert F L bc bs pr px 14 [none, none, none] [] (xw_up h b2 (.inl (2, n_b2, .inr (.inl (vp_updL f_b2 (y1).toNatClampNeg y0.toInt64)))))) : xw G m_Law_insert F L bc bs pr px 6 [none, none, none] [.int y0, .int y1, .ref b2] h := by
  refine x_i2l d_Law_insert_6 rfl ?_
  refine x_last d_Law_insert_7 e_b2 i_7 ?_
  refine x_goto (tgt := 14) d_Law_insert_8 (by decide) ?_
  exact k
theorem s_Law_insert_11 {G : xw_G} {F L bc bs : Nat} {pr : Option Value → xw_A → Prop} {px : String → xw_A → Prop} {h : xw_A} {b0 : Nat}  (kr : pr (some (.int 1)) h) : xw G m_Law_insert F L bc bs pr px 11 [none, none, none] [.ref b0] h := by
  refine x_astore_n d_Law_insert_11 rfl (by decide) trivial ?_
  show xw G m_Law_insert F L bc bs pr px 12 [none, none, some (.ref b0)] [] h
  refine x_iconst (v := 1) d_Law_insert_12 (by decide) ?_
  exact x_iret d_Law_insert_13 rfl kr
theorem s_Law_insert_14 {G : xw_G} {F L bc bs : Nat} {pr : Option Value → xw_A → Prop} {px : String → xw_A → Prop} {h : xw_A}   (kr : pr (some (.int 0)) h) : xw G m_Law_insert F L bc bs pr px 14 [none, none, none] [] h := by
  refine x_iconst (v := 0) d_Law_insert_14 (by decide) ?_
  exact x_iret d_Law_insert_15 rfl kr
theorem s_Law_replace_0 {G : xw_G} {F L bc bs : Nat} {pr : Option Value → xw_A → Prop} {px : String → xw_A → Prop} {h : xw_A} {a0 : Nat} {x1 : Int32} {a2 : Nat}  (k : xw G m_Law_replace F L bc bs pr px 4 [some (.ref a0), some (.int x1), some (.ref a2), none] [.int x1, .ref a0, .int 0, .ref a2] h) : xw G m_Law_replace F L bc bs pr px 0 [some (.ref a0), some (.int x1), some (.ref a2), none] [] h := by
  refine x_aload_n d_Law_replace_0 rfl rfl ?_
  refine x_iconst (v := 0) d_Law_replace_1 (by decide) ?_
  refine x_aload_n d_Law_replace_2 rfl rfl ?_
  refine x_iload_n d_Law_replace_3 rfl rfl ?_
  exact k
theorem s_Law_replace_7 {G : xw_G} {F L bc bs : Nat} {pr : Option Value → xw_A → Prop} {px : String → xw_A → Prop} {h : xw_A} {y0 : Int32} {y1 : Int32} {b2 : Nat} {n_b2 : Nat} {f_b2 : Nat → Int64} (e_b2 : h b2 = some (.inl (2, n_b2, .inr (.inl f_b2)))) (i_8 : vp_in y1 n_b2) (k : xw G m_Law_replace F L bc bs pr px 15 [none, none, none, none] [] (xw_up h b2 (.inl (2, n_b2, .inr (.inl (vp_updL f_b2 (y1).toNatClampNeg y0.toInt64)))))) : xw G m_Law_replace F L bc bs pr px 7 [none, none, none, none] [.int y0, .int y1, .ref b2] h := by
  refine x_i2l d_Law_replace_7 rfl ?_
  refine x_last d_Law_replace_8 e_b2 i_8 ?_
  refine x_goto (tgt := 15) d_Law_replace_9 (by decide) ?_
  exact k
theorem s_Law_replace_12 {G : xw_G} {F L bc bs : Nat} {pr : Option Value → xw_A → Prop} {px : String → xw_A → Prop} {h : xw_A} {b0 : Nat}  (kr : pr (some (.int 1)) h) : xw G m_Law_replace F L bc bs pr px 12 [none, none, none, none] [.ref b0] h := by
  refine x_astore_n d_Law_replace_12 rfl (by decide) trivial ?_
  show xw G m_Law_replace F L bc bs pr px 13 [none, none, none, some (.ref b0)] [] h
  refine x_iconst (v := 1) d_Law_replace_13 (by decide) ?_
  exact x_iret d_Law_replace_14 rfl kr
theorem s_Law_replace_15 {G : xw_G} {F L bc bs : Nat} {pr : Option Value → xw_A → Prop} {px : String → xw_A → Prop} {h : xw_A}   (kr : pr (some (.int 0)) h) : xw G m_Law_replace F L bc bs pr px 15 [none, none, none, none] [] h := by
  refine x_iconst (v := 0) d_Law_replace_15 (by decide) ?_
  exact x_iret d_Law_replace_16 rfl kr
theorem s_Law_delete_0 {G : xw_G} {F L bc bs : Nat} {pr : Option Value → xw_A → Prop} {px : String → xw_A → Prop} {h : xw_A} {a0 : Nat} {x1 : Int32} {a2 : Nat}  (k : xw G m_Law_delete F L bc bs pr px 4 [some (.ref a0), some (.int x1), some (.ref a2), none] [.int x1, .ref a0, .int 0, .ref a2] h) : xw G m_Law_delete F L bc bs pr px 0 [some (.ref a0), some (.int x1), some (.ref a2), none] [] h := by
  refine x_aload_n d_Law_delete_0 rfl rfl ?_
  refine x_iconst (v := 0) d_Law_delete_1 (by decide) ?_
  refine x_aload_n d_Law_delete_2 rfl rfl ?_
  refine x_iload_n d_Law_delete_3 rfl rfl ?_
  exact k
theorem s_Law_delete_7 {G : xw_G} {F L bc bs : Nat} {pr : Option Value → xw_A → Prop} {px : String → xw_A → Prop} {h : xw_A} {y0 : Int32} {y1 : Int32} {b2 : Nat} {n_b2 : Nat} {f_b2 : Nat → Int64} (e_b2 : h b2 = some (.inl (2, n_b2, .inr (.inl f_b2)))) (i_8 : vp_in y1 n_b2) (k : xw G m_Law_delete F L bc bs pr px 15 [none, none, none, none] [] (xw_up h b2 (.inl (2, n_b2, .inr (.inl (vp_updL f_b2 (y1).toNatClampNeg y0.toInt64)))))) : xw G m_Law_delete F L bc bs pr px 7 [none, none, none, none] [.int y0, .int y1, .ref b2] h := by
  refine x_i2l d_Law_delete_7 rfl ?_
  refine x_last d_Law_delete_8 e_b2 i_8 ?_
  refine x_goto (tgt := 15) d_Law_delete_9 (by decide) ?_
  exact k
theorem s_Law_delete_12 {G : xw_G} {F L bc bs : Nat} {pr : Option Value → xw_A → Prop} {px : String → xw_A → Prop} {h : xw_A} {b0 : Nat}  (kr : pr (some (.int 1)) h) : xw G m_Law_delete F L bc bs pr px 12 [none, none, none, none] [.ref b0] h := by
  refine x_astore_n d_Law_delete_12 rfl (by decide) trivial ?_
  show xw G m_Law_delete F L bc bs pr px 13 [none, none, none, some (.ref b0)] [] h
  refine x_iconst (v := 1) d_Law_delete_13 (by decide) ?_
  exact x_iret d_Law_delete_14 rfl kr
theorem s_Law_delete_15 {G : xw_G} {F L bc bs : Nat} {pr : Option Value → xw_A → Prop} {px : String → xw_A → Prop} {h : xw_A}   (kr : pr (some (.int 0)) h) : xw G m_Law_delete F L bc bs pr px 15 [none, none, none, none] [] h := by
  refine x_iconst (v := 0) d_Law_delete_15 (by decide) ?_
  exact x_iret d_Law_delete_16 rfl kr
theorem s_Law_begin_0 {G : xw_G} {F L bc bs : Nat} {pr : Option Value → xw_A → Prop} {px : String → xw_A → Prop} {h : xw_A} {a0 : Nat}  (k : xw G m_Law_begin F L bc bs pr px 1 [some (.ref a0), none] [.ref a0] h) : xw G m_Law_begin F L bc bs pr px 0 [some (.ref a0), none] [] h := by
  refine x_aload_n d_Law_begin_0 rfl rfl ?_
  exact k
theorem s_Law_begin_4 {G : xw_G} {F L bc bs : Nat} {pr : Option Value → xw_A → Prop} {px : String → xw_A → Prop} {h : xw_A}   (k : xw G m_Law_begin F L bc bs pr px 10 [none, none] [] h) : xw G m_Law_begin F L bc bs pr px 4 [none, none] [] h := by
  refine x_goto (tgt := 10) d_Law_begin_4 (by decide) ?_
  exact k
theorem s_Law_begin_7 {G : xw_G} {F L bc bs : Nat} {pr : Option Value → xw_A → Prop} {px : String → xw_A → Prop} {h : xw_A} {b0 : Nat}  (kr : pr (some (.int 1)) h) : xw G m_Law_begin F L bc bs pr px 7 [none, none] [.ref b0] h := by
  refine x_astore_n d_Law_begin_7 rfl (by decide) trivial ?_
  show xw G m_Law_begin F L bc bs pr px 8 [none, some (.ref b0)] [] h
  refine x_iconst (v := 1) d_Law_begin_8 (by decide) ?_
  exact x_iret d_Law_begin_9 rfl kr
theorem s_Law_begin_10 {G : xw_G} {F L bc bs : Nat} {pr : Option Value → xw_A → Prop} {px : String → xw_A → Prop} {h : xw_A}   (kr : pr (some (.int 0)) h) : xw G m_Law_begin F L bc bs pr px 10 [none, none] [] h := by
  refine x_iconst (v := 0) d_Law_begin_10 (by decide) ?_
  exact x_iret d_Law_begin_11 rfl kr
theorem s_Law_commit_0 {G : xw_G} {F L bc bs : Nat} {pr : Option Value → xw_A → Prop} {px : String → xw_A → Prop} {h : xw_A} {a0 : Nat} {a1 : Nat}  (k : xw G m_Law_commit F L bc bs pr px 3 [some (.ref a0), some (.ref a1), none] [.ref a0, .int 0, .ref a1] h) : xw G m_Law_commit F L bc bs pr px 0 [some (.ref a0), some (.ref a1), none] [] h := by
  refine x_aload_n d_Law_commit_0 rfl rfl ?_
  refine x_iconst (v := 0) d_Law_commit_1 (by decide) ?_
  refine x_aload_n d_Law_commit_2 rfl rfl ?_
  exact k
theorem s_Law_commit_6 {G : xw_G} {F L bc bs : Nat} {pr : Option Value → xw_A → Prop} {px : String → xw_A → Prop} {h : xw_A} {y0 : Int32} {y1 : Int32} {b2 : Nat} {n_b2 : Nat} {f_b2 : Nat → Int64} (e_b2 : h b2 = some (.inl (2, n_b2, .inr (.inl f_b2)))) (i_7 : vp_in y1 n_b2) (k : xw G m_Law_commit F L bc bs pr px 14 [none, none, none] [] (xw_up h b2 (.inl (2, n_b2, .inr (.inl (vp_updL f_b2 (y1).toNatClampNeg y0.toInt64)))))) : xw G m_Law_commit F L bc bs pr px 6 [none, none, none] [.int y0, .int y1, .ref b2] h := by
  refine x_i2l d_Law_commit_6 rfl ?_
  refine x_last d_Law_commit_7 e_b2 i_7 ?_
  refine x_goto (tgt := 14) d_Law_commit_8 (by decide) ?_
  exact k
theorem s_Law_commit_11 {G : xw_G} {F L bc bs : Nat} {pr : Option Value → xw_A → Prop} {px : String → xw_A → Prop} {h : xw_A} {b0 : Nat}  (kr : pr (some (.int 1)) h) : xw G m_Law_commit F L bc bs pr px 11 [none, none, none] [.ref b0] h := by
  refine x_astore_n d_Law_commit_11 rfl (by decide) trivial ?_
  show xw G m_Law_commit F L bc bs pr px 12 [none, none, some (.ref b0)] [] h
  refine x_iconst (v := 1) d_Law_commit_12 (by decide) ?_
  exact x_iret d_Law_commit_13 rfl kr
theorem s_Law_commit_14 {G : xw_G} {F L bc bs : Nat} {pr : Option Value → xw_A → Prop} {px : String → xw_A → Prop} {h : xw_A}   (kr : pr (some (.int 0)) h) : xw G m_Law_commit F L bc bs pr px 14 [none, none, none] [] h := by
  refine x_iconst (v := 0) d_Law_commit_14 (by decide) ?_
  exact x_iret d_Law_commit_15 rfl kr
theorem s_Law_rollback_0 {G : xw_G} {F L bc bs : Nat} {pr : Option Value → xw_A → Prop} {px : String → xw_A → Prop} {h : xw_A} {a0 : Nat} {a1 : Nat}  (k : xw G m_Law_rollback F L bc bs pr px 3 [some (.ref a0), some (.ref a1), none] [.ref a0, .int 0, .ref a1] h) : xw G m_Law_rollback F L bc bs pr px 0 [some (.ref a0), some (.ref a1), none] [] h := by
  refine x_aload_n d_Law_rollback_0 rfl rfl ?_
  refine x_iconst (v := 0) d_Law_rollback_1 (by decide) ?_
  refine x_aload_n d_Law_rollback_2 rfl rfl ?_
  exact k
theorem s_Law_rollback_6 {G : xw_G} {F L bc bs : Nat} {pr : Option Value → xw_A → Prop} {px : String → xw_A → Prop} {h : xw_A} {y0 : Int32} {y1 : Int32} {b2 : Nat} {n_b2 : Nat} {f_b2 : Nat → Int64} (e_b2 : h b2 = some (.inl (2, n_b2, .inr (.inl f_b2)))) (i_7 : vp_in y1 n_b2) (k : xw G m_Law_rollback F L bc bs pr px 14 [none, none, none] [] (xw_up h b2 (.inl (2, n_b2, .inr (.inl (vp_updL f_b2 (y1).toNatClampNeg y0.toInt64)))))) : xw G m_Law_rollback F L bc bs pr px 6 [none, none, none] [.int y0, .int y1, .ref b2] h := by
  refine x_i2l d_Law_rollback_6 rfl ?_
  refine x_last d_Law_rollback_7 e_b2 i_7 ?_
  refine x_goto (tgt := 14) d_Law_rollback_8 (by decide) ?_
  exact k
theorem s_Law_rollback_11 {G : xw_G} {F L bc bs : Nat} {pr : Option Value → xw_A → Prop} {px : String → xw_A → Prop} {h : xw_A} {b0 : Nat}  (kr : pr (some (.int 1)) h) : xw G m_Law_rollback F L bc bs pr px 11 [none, none, none] [.ref b0] h := by
  refine x_astore_n d_Law_rollback_11 rfl (by decide) trivial ?_
  show xw G m_Law_rollback F L bc bs pr px 12 [none, none, some (.ref b0)] [] h
  refine x_iconst (v := 1) d_Law_rollback_12 (by decide) ?_
  exact x_iret d_Law_rollback_13 rfl kr
theorem s_Law_rollback_14 {G : xw_G} {F L bc bs : Nat} {pr : Option Value → xw_A → Prop} {px : String → xw_A → Prop} {h : xw_A}   (kr : pr (some (.int 0)) h) : xw G m_Law_rollback F L bc bs pr px 14 [none, none, none] [] h := by
  refine x_iconst (v := 0) d_Law_rollback_14 (by decide) ?_
  exact x_iret d_Law_rollback_15 rfl kr
theorem s_Law_ways_0 {G : xw_G} {F L bc bs : Nat} {pr : Option Value → xw_A → Prop} {px : String → xw_A → Prop} {h : xw_A} {a0 : Nat} {x1 : Int32} {x2 : Int32}  (k : xw G m_Law_ways F L bc bs pr px 3 [some (.ref a0), some (.int x1), some (.int x2), none] [.int x2, .int x1, .ref a0] h) : xw G m_Law_ways F L bc bs pr px 0 [some (.ref a0), some (.int x1), some (.int x2), none] [] h := by
  refine x_aload_n d_Law_ways_0 rfl rfl ?_
  refine x_iload_n d_Law_ways_1 rfl rfl ?_
  refine x_iload_n d_Law_ways_2 rfl rfl ?_
  exact k
theorem s_Law_ways_6 {G : xw_G} {F L bc bs : Nat} {pr : Option Value → xw_A → Prop} {px : String → xw_A → Prop} {h : xw_A}   (k : xw G m_Law_ways F L bc bs pr px 12 [none, none, none, none] [] h) : xw G m_Law_ways F L bc bs pr px 6 [none, none, none, none] [] h := by
  refine x_goto (tgt := 12) d_Law_ways_6 (by decide) ?_
  exact k
theorem s_Law_ways_9 {G : xw_G} {F L bc bs : Nat} {pr : Option Value → xw_A → Prop} {px : String → xw_A → Prop} {h : xw_A} {b0 : Nat}  (kr : pr (some (.int 1)) h) : xw G m_Law_ways F L bc bs pr px 9 [none, none, none, none] [.ref b0] h := by
  refine x_astore_n d_Law_ways_9 rfl (by decide) trivial ?_
  show xw G m_Law_ways F L bc bs pr px 10 [none, none, none, some (.ref b0)] [] h
  refine x_iconst (v := 1) d_Law_ways_10 (by decide) ?_
  exact x_iret d_Law_ways_11 rfl kr
theorem s_Law_ways_12 {G : xw_G} {F L bc bs : Nat} {pr : Option Value → xw_A → Prop} {px : String → xw_A → Prop} {h : xw_A}   (kr : pr (some (.int 0)) h) : xw G m_Law_ways F L bc bs pr px 12 [none, none, none, none] [] h := by
  refine x_iconst (v := 0) d_Law_ways_12 (by decide) ?_
  exact x_iret d_Law_ways_13 rfl kr
theorem s_Law_weight_0 {G : xw_G} {F L bc bs : Nat} {pr : Option Value → xw_A → Prop} {px : String → xw_A → Prop} {h : xw_A} {a0 : Nat} {x1 : Int32} {x2 : Int32} {a3 : Nat}  (k : xw G m_Law_weight F L bc bs pr px 5 [some (.ref a0), some (.int x1), some (.int x2), some (.ref a3), none] [.int x2, .int x1, .ref a0, .int 0, .ref a3] h) : xw G m_Law_weight F L bc bs pr px 0 [some (.ref a0), some (.int x1), some (.int x2), some (.ref a3), none] [] h := by
  refine x_aload_n d_Law_weight_0 rfl rfl ?_
  refine x_iconst (v := 0) d_Law_weight_1 (by decide) ?_
  refine x_aload_n d_Law_weight_2 rfl rfl ?_
  refine x_iload_n d_Law_weight_3 rfl rfl ?_
  refine x_iload_n d_Law_weight_4 rfl rfl ?_
  exact k
theorem s_Law_weight_8 {G : xw_G} {F L bc bs : Nat} {pr : Option Value → xw_A → Prop} {px : String → xw_A → Prop} {h : xw_A} {y0 : Int32} {y1 : Int32} {b2 : Nat} {n_b2 : Nat} {f_b2 : Nat → Int64} (e_b2 : h b2 = some (.inl (2, n_b2, .inr (.inl f_b2)))) (i_9 : vp_in y1 n_b2) (k : xw G m_Law_weight F L bc bs pr px 17 [none, none, none, none, none] [] (xw_up h b2 (.inl (2, n_b2, .inr (.inl (vp_updL f_b2 (y1).toNatClampNeg y0.toInt64)))))) : xw G m_Law_weight F L bc bs pr px 8 [none, none, none, none, none] [.int y0, .int y1, .ref b2] h := by
  refine x_i2l d_Law_weight_8 rfl ?_
  refine x_last d_Law_weight_9 e_b2 i_9 ?_
  refine x_goto (tgt := 17) d_Law_weight_10 (by decide) ?_
  exact k
theorem s_Law_weight_13 {G : xw_G} {F L bc bs : Nat} {pr : Option Value → xw_A → Prop} {px : String → xw_A → Prop} {h : xw_A} {b0 : Nat}  (kr : pr (some (.int 1)) h) : xw G m_Law_weight F L bc bs pr px 13 [none, none, none, none, none] [.ref b0] h := by
  refine x_astore d_Law_weight_13 (by decide) trivial ?_
  show xw G m_Law_weight F L bc bs pr px 15 [none, none, none, none, some (.ref b0)] [] h
  refine x_iconst (v := 1) d_Law_weight_15 (by decide) ?_
  exact x_iret d_Law_weight_16 rfl kr
theorem s_Law_weight_17 {G : xw_G} {F L bc bs : Nat} {pr : Option Value → xw_A → Prop} {px : String → xw_A → Prop} {h : xw_A}   (kr : pr (some (.int 0)) h) : xw G m_Law_weight F L bc bs pr px 17 [none, none, none, none, none] [] h := by
  refine x_iconst (v := 0) d_Law_weight_17 (by decide) ?_
  exact x_iret d_Law_weight_18 rfl kr
theorem s_Law_ask_0 {G : xw_G} {F L bc bs : Nat} {pr : Option Value → xw_A → Prop} {px : String → xw_A → Prop} {h : xw_A} {a0 : Nat} {a1 : Nat}  (k : xw G m_Law_ask F L bc bs pr px 3 [some (.ref a0), some (.ref a1), none] [.ref a0, .int 0, .ref a1] h) : xw G m_Law_ask F L bc bs pr px 0 [some (.ref a0), some (.ref a1), none] [] h := by
  refine x_aload_n d_Law_ask_0 rfl rfl ?_
  refine x_iconst (v := 0) d_Law_ask_1 (by decide) ?_
  refine x_aload_n d_Law_ask_2 rfl rfl ?_
  exact k
theorem s_Law_ask_6 {G : xw_G} {F L bc bs : Nat} {pr : Option Value → xw_A → Prop} {px : String → xw_A → Prop} {h : xw_A} {y0 : Int32} {y1 : Int32} {b2 : Nat} {n_b2 : Nat} {f_b2 : Nat → Int64} (e_b2 : h b2 = some (.inl (2, n_b2, .inr (.inl f_b2)))) (i_7 : vp_in y1 n_b2) (k : xw G m_Law_ask F L bc bs pr px 14 [none, none, none] [] (xw_up h b2 (.inl (2, n_b2, .inr (.inl (vp_updL f_b2 (y1).toNatClampNeg y0.toInt64)))))) : xw G m_Law_ask F L bc bs pr px 6 [none, none, none] [.int y0, .int y1, .ref b2] h := by
  refine x_i2l d_Law_ask_6 rfl ?_
  refine x_last d_Law_ask_7 e_b2 i_7 ?_
  refine x_goto (tgt := 14) d_Law_ask_8 (by decide) ?_
  exact k
theorem s_Law_ask_11 {G : xw_G} {F L bc bs : Nat} {pr : Option Value → xw_A → Prop} {px : String → xw_A → Prop} {h : xw_A} {b0 : Nat}  (kr : pr (some (.int 1)) h) : xw G m_Law_ask F L bc bs pr px 11 [none, none, none] [.ref b0] h := by
  refine x_astore_n d_Law_ask_11 rfl (by decide) trivial ?_
  show xw G m_Law_ask F L bc bs pr px 12 [none, none, some (.ref b0)] [] h
  refine x_iconst (v := 1) d_Law_ask_12 (by decide) ?_
  exact x_iret d_Law_ask_13 rfl kr
theorem s_Law_ask_14 {G : xw_G} {F L bc bs : Nat} {pr : Option Value → xw_A → Prop} {px : String → xw_A → Prop} {h : xw_A}   (kr : pr (some (.int 0)) h) : xw G m_Law_ask F L bc bs pr px 14 [none, none, none] [] h := by
  refine x_iconst (v := 0) d_Law_ask_14 (by decide) ?_
  exact x_iret d_Law_ask_15 rfl kr
theorem s_Law_answer_0 {G : xw_G} {F L bc bs : Nat} {pr : Option Value → xw_A → Prop} {px : String → xw_A → Prop} {h : xw_A} {a0 : Nat} {x1 : Int32} {x2 : Int32} {a3 : Nat}  (k : xw G m_Law_answer F L bc bs pr px 5 [some (.ref a0), some (.int x1), some (.int x2), some (.ref a3), none] [.int x2, .int x1, .ref a0, .int 0, .ref a3] h) : xw G m_Law_answer F L bc bs pr px 0 [some (.ref a0), some (.int x1), some (.int x2), some (.ref a3), none] [] h := by
  refine x_aload_n d_Law_answer_0 rfl rfl ?_
  refine x_iconst (v := 0) d_Law_answer_1 (by decide) ?_
  refine x_aload_n d_Law_answer_2 rfl rfl ?_
  refine x_iload_n d_Law_answer_3 rfl rfl ?_
  refine x_iload_n d_Law_answer_4 rfl rfl ?_
  exact k
theorem s_Law_answer_8 {G : xw_G} {F L bc bs : Nat} {pr : Option Value → xw_A → Prop} {px : String → xw_A → Prop} {h : xw_A} {y0 : Int32} {y1 : Int32} {b2 : Nat} {n_b2 : Nat} {f_b2 : Nat → Int64} (e_b2 : h b2 = some (.inl (2, n_b2, .inr (.inl f_b2)))) (i_9 : vp_in y1 n_b2) (k : xw G m_Law_answer F L bc bs pr px 17 [none, none, none, none, none] [] (xw_up h b2 (.inl (2, n_b2, .inr (.inl (vp_updL f_b2 (y1).toNatClampNeg y0.toInt64)))))) : xw G m_Law_answer F L bc bs pr px 8 [none, none, none, none, none] [.int y0, .int y1, .ref b2] h := by
  refine x_i2l d_Law_answer_8 rfl ?_
  refine x_last d_Law_answer_9 e_b2 i_9 ?_
  refine x_goto (tgt := 17) d_Law_answer_10 (by decide) ?_
  exact k
theorem s_Law_answer_13 {G : xw_G} {F L bc bs : Nat} {pr : Option Value → xw_A → Prop} {px : String → xw_A → Prop} {h : xw_A} {b0 : Nat}  (kr : pr (some (.int 1)) h) : xw G m_Law_answer F L bc bs pr px 13 [none, none, none, none, none] [.ref b0] h := by
  refine x_astore d_Law_answer_13 (by decide) trivial ?_
  show xw G m_Law_answer F L bc bs pr px 15 [none, none, none, none, some (.ref b0)] [] h
  refine x_iconst (v := 1) d_Law_answer_15 (by decide) ?_
  exact x_iret d_Law_answer_16 rfl kr
theorem s_Law_answer_17 {G : xw_G} {F L bc bs : Nat} {pr : Option Value → xw_A → Prop} {px : String → xw_A → Prop} {h : xw_A}   (kr : pr (some (.int 0)) h) : xw G m_Law_answer F L bc bs pr px 17 [none, none, none, none, none] [] h := by
  refine x_iconst (v := 0) d_Law_answer_17 (by decide) ?_
  exact x_iret d_Law_answer_18 rfl kr
theorem s_Law_score_0 {G : xw_G} {F L bc bs : Nat} {pr : Option Value → xw_A → Prop} {px : String → xw_A → Prop} {h : xw_A} {a0 : Nat} {x1 : Int32} {x2 : Int32} {a3 : Nat}  (k : xw G m_Law_score F L bc bs pr px 5 [some (.ref a0), some (.int x1), some (.int x2), some (.ref a3), none] [.int x2, .int x1, .ref a0, .int 0, .ref a3] h) : xw G m_Law_score F L bc bs pr px 0 [some (.ref a0), some (.int x1), some (.int x2), some (.ref a3), none] [] h := by
  refine x_aload_n d_Law_score_0 rfl rfl ?_
  refine x_iconst (v := 0) d_Law_score_1 (by decide) ?_
  refine x_aload_n d_Law_score_2 rfl rfl ?_
  refine x_iload_n d_Law_score_3 rfl rfl ?_
  refine x_iload_n d_Law_score_4 rfl rfl ?_
  exact k
theorem s_Law_score_8 {G : xw_G} {F L bc bs : Nat} {pr : Option Value → xw_A → Prop} {px : String → xw_A → Prop} {h : xw_A} {y0 : UInt64} {y1 : Int32} {b2 : Nat} {n_b2 : Nat} {f_b2 : Nat → UInt64} (e_b2 : h b2 = some (.inl (3, n_b2, .inr (.inr (.inr (.inl f_b2)))))) (i_8 : vp_in y1 n_b2) (k : xw G m_Law_score F L bc bs pr px 16 [none, none, none, none, none] [] (xw_up h b2 (.inl (3, n_b2, .inr (.inr (.inr (.inl (vf_upd f_b2 (y1).toNatClampNeg y0)))))))) : xw G m_Law_score F L bc bs pr px 8 [none, none, none, none, none] [.double y0, .int y1, .ref b2] h := by
  refine x_dast d_Law_score_8 e_b2 i_8 ?_
  refine x_goto (tgt := 16) d_Law_score_9 (by decide) ?_
  exact k
theorem s_Law_score_12 {G : xw_G} {F L bc bs : Nat} {pr : Option Value → xw_A → Prop} {px : String → xw_A → Prop} {h : xw_A} {b0 : Nat}  (kr : pr (some (.int 1)) h) : xw G m_Law_score F L bc bs pr px 12 [none, none, none, none, none] [.ref b0] h := by
  refine x_astore d_Law_score_12 (by decide) trivial ?_
  show xw G m_Law_score F L bc bs pr px 14 [none, none, none, none, some (.ref b0)] [] h
  refine x_iconst (v := 1) d_Law_score_14 (by decide) ?_
  exact x_iret d_Law_score_15 rfl kr
theorem s_Law_score_16 {G : xw_G} {F L bc bs : Nat} {pr : Option Value → xw_A → Prop} {px : String → xw_A → Prop} {h : xw_A}   (kr : pr (some (.int 0)) h) : xw G m_Law_score F L bc bs pr px 16 [none, none, none, none, none] [] h := by
  refine x_iconst (v := 0) d_Law_score_16 (by decide) ?_
  exact x_iret d_Law_score_17 rfl kr
theorem s_Law_look_0 {G : xw_G} {F L bc bs : Nat} {pr : Option Value → xw_A → Prop} {px : String → xw_A → Prop} {h : xw_A} {a0 : Nat} {x1 : Int32} {x2 : Int32} {a3 : Nat}  (k : xw G m_Law_look F L bc bs pr px 5 [some (.ref a0), some (.int x1), some (.int x2), some (.ref a3), none] [.int x2, .int x1, .ref a0, .int 0, .ref a3] h) : xw G m_Law_look F L bc bs pr px 0 [some (.ref a0), some (.int x1), some (.int x2), some (.ref a3), none] [] h := by
  refine x_aload_n d_Law_look_0 rfl rfl ?_
  refine x_iconst (v := 0) d_Law_look_1 (by decide) ?_
  refine x_aload_n d_Law_look_2 rfl rfl ?_
  refine x_iload_n d_Law_look_3 rfl rfl ?_
  refine x_iload_n d_Law_look_4 rfl rfl ?_
  exact k
theorem s_Law_look_8 {G : xw_G} {F L bc bs : Nat} {pr : Option Value → xw_A → Prop} {px : String → xw_A → Prop} {h : xw_A} {y0 : Int32} {y1 : Int32} {b2 : Nat} {n_b2 : Nat} {f_b2 : Nat → Int64} (e_b2 : h b2 = some (.inl (2, n_b2, .inr (.inl f_b2)))) (i_9 : vp_in y1 n_b2) (k : xw G m_Law_look F L bc bs pr px 21 [none, none, none, none, none] [] (xw_up h b2 (.inl (2, n_b2, .inr (.inl (vp_updL f_b2 (y1).toNatClampNeg y0.toInt64)))))) : xw G m_Law_look F L bc bs pr px 8 [none, none, none, none, none] [.int y0, .int y1, .ref b2] h := by
  refine x_i2l d_Law_look_8 rfl ?_
  refine x_last d_Law_look_9 e_b2 i_9 ?_
  refine x_goto (tgt := 21) d_Law_look_10 (by decide) ?_
  exact k
theorem s_Law_look_13 {G : xw_G} {F L bc bs : Nat} {pr : Option Value → xw_A → Prop} {px : String → xw_A → Prop} {h : xw_A} {b0 : Nat}  (kr : pr (some (.int 1)) h) : xw G m_Law_look F L bc bs pr px 13 [none, none, none, none, none] [.ref b0] h := by
  refine x_astore d_Law_look_13 (by decide) trivial ?_
  show xw G m_Law_look F L bc bs pr px 15 [none, none, none, none, some (.ref b0)] [] h
  refine x_iconst (v := 1) d_Law_look_15 (by decide) ?_
  exact x_iret d_Law_look_16 rfl kr
theorem s_Law_look_17 {G : xw_G} {F L bc bs : Nat} {pr : Option Value → xw_A → Prop} {px : String → xw_A → Prop} {h : xw_A} {b0 : Nat}  (kr : pr (some (.int 2)) h) : xw G m_Law_look F L bc bs pr px 17 [none, none, none, none, none] [.ref b0] h := by
  refine x_astore d_Law_look_17 (by decide) trivial ?_
  show xw G m_Law_look F L bc bs pr px 19 [none, none, none, none, some (.ref b0)] [] h
  refine x_iconst (v := 2) d_Law_look_19 (by decide) ?_
  exact x_iret d_Law_look_20 rfl kr
theorem s_Law_look_21 {G : xw_G} {F L bc bs : Nat} {pr : Option Value → xw_A → Prop} {px : String → xw_A → Prop} {h : xw_A}   (kr : pr (some (.int 0)) h) : xw G m_Law_look F L bc bs pr px 21 [none, none, none, none, none] [] h := by
  refine x_iconst (v := 0) d_Law_look_21 (by decide) ?_
  exact x_iret d_Law_look_22 rfl kr
theorem s_Law_segment_0 {G : xw_G} {F L bc bs : Nat} {pr : Option Value → xw_A → Prop} {px : String → xw_A → Prop} {h : xw_A} {a0 : Nat} {x1 : Int32} {x2 : Int32} {a3 : Nat}  (k : xw G m_Law_segment F L bc bs pr px 5 [some (.ref a0), some (.int x1), some (.int x2), some (.ref a3), none] [.int x2, .int x1, .ref a0, .int 0, .ref a3] h) : xw G m_Law_segment F L bc bs pr px 0 [some (.ref a0), some (.int x1), some (.int x2), some (.ref a3), none] [] h := by
  refine x_aload_n d_Law_segment_0 rfl rfl ?_
  refine x_iconst (v := 0) d_Law_segment_1 (by decide) ?_
  refine x_aload_n d_Law_segment_2 rfl rfl ?_
  refine x_iload_n d_Law_segment_3 rfl rfl ?_
  refine x_iload_n d_Law_segment_4 rfl rfl ?_
  exact k
theorem s_Law_segment_8 {G : xw_G} {F L bc bs : Nat} {pr : Option Value → xw_A → Prop} {px : String → xw_A → Prop} {h : xw_A} {y0 : Int32} {y1 : Int32} {b2 : Nat} {n_b2 : Nat} {f_b2 : Nat → Int64} (e_b2 : h b2 = some (.inl (2, n_b2, .inr (.inl f_b2)))) (i_9 : vp_in y1 n_b2) (k : xw G m_Law_segment F L bc bs pr px 21 [none, none, none, none, none] [] (xw_up h b2 (.inl (2, n_b2, .inr (.inl (vp_updL f_b2 (y1).toNatClampNeg y0.toInt64)))))) : xw G m_Law_segment F L bc bs pr px 8 [none, none, none, none, none] [.int y0, .int y1, .ref b2] h := by
  refine x_i2l d_Law_segment_8 rfl ?_
  refine x_last d_Law_segment_9 e_b2 i_9 ?_
  refine x_goto (tgt := 21) d_Law_segment_10 (by decide) ?_
  exact k
theorem s_Law_segment_13 {G : xw_G} {F L bc bs : Nat} {pr : Option Value → xw_A → Prop} {px : String → xw_A → Prop} {h : xw_A} {b0 : Nat}  (kr : pr (some (.int 1)) h) : xw G m_Law_segment F L bc bs pr px 13 [none, none, none, none, none] [.ref b0] h := by
  refine x_astore d_Law_segment_13 (by decide) trivial ?_
  show xw G m_Law_segment F L bc bs pr px 15 [none, none, none, none, some (.ref b0)] [] h
  refine x_iconst (v := 1) d_Law_segment_15 (by decide) ?_
  exact x_iret d_Law_segment_16 rfl kr
theorem s_Law_segment_17 {G : xw_G} {F L bc bs : Nat} {pr : Option Value → xw_A → Prop} {px : String → xw_A → Prop} {h : xw_A} {b0 : Nat}  (kr : pr (some (.int 2)) h) : xw G m_Law_segment F L bc bs pr px 17 [none, none, none, none, none] [.ref b0] h := by
  refine x_astore d_Law_segment_17 (by decide) trivial ?_
  show xw G m_Law_segment F L bc bs pr px 19 [none, none, none, none, some (.ref b0)] [] h
  refine x_iconst (v := 2) d_Law_segment_19 (by decide) ?_
  exact x_iret d_Law_segment_20 rfl kr
theorem s_Law_segment_21 {G : xw_G} {F L bc bs : Nat} {pr : Option Value → xw_A → Prop} {px : String → xw_A → Prop} {h : xw_A}   (kr : pr (some (.int 0)) h) : xw G m_Law_segment F L bc bs pr px 21 [none, none, none, none, none] [] h := by
  refine x_iconst (v := 0) d_Law_segment_21 (by decide) ?_
  exact x_iret d_Law_segment_22 rfl kr
theorem s_Law_count_0 {G : xw_G} {F L bc bs : Nat} {pr : Option Value → xw_A → Prop} {px : String → xw_A → Prop} {h : xw_A} {a0 : Nat} {x1 : Int32} {a2 : Nat}  (k : xw G m_Law_count F L bc bs pr px 4 [some (.ref a0), some (.int x1), some (.ref a2), none] [.int x1, .ref a0, .int 0, .ref a2] h) : xw G m_Law_count F L bc bs pr px 0 [some (.ref a0), some (.int x1), some (.ref a2), none] [] h := by
  refine x_aload_n d_Law_count_0 rfl rfl ?_
  refine x_iconst (v := 0) d_Law_count_1 (by decide) ?_
  refine x_aload_n d_Law_count_2 rfl rfl ?_
  refine x_iload_n d_Law_count_3 rfl rfl ?_
  exact k
theorem s_Law_count_7 {G : xw_G} {F L bc bs : Nat} {pr : Option Value → xw_A → Prop} {px : String → xw_A → Prop} {h : xw_A} {y0 : Int32} {y1 : Int32} {b2 : Nat} {n_b2 : Nat} {f_b2 : Nat → Int64} (e_b2 : h b2 = some (.inl (2, n_b2, .inr (.inl f_b2)))) (i_8 : vp_in y1 n_b2) (k : xw G m_Law_count F L bc bs pr px 15 [none, none, none, none] [] (xw_up h b2 (.inl (2, n_b2, .inr (.inl (vp_updL f_b2 (y1).toNatClampNeg y0.toInt64)))))) : xw G m_Law_count F L bc bs pr px 7 [none, none, none, none] [.int y0, .int y1, .ref b2] h := by
  refine x_i2l d_Law_count_7 rfl ?_
  refine x_last d_Law_count_8 e_b2 i_8 ?_
  refine x_goto (tgt := 15) d_Law_count_9 (by decide) ?_
  exact k
theorem s_Law_count_12 {G : xw_G} {F L bc bs : Nat} {pr : Option Value → xw_A → Prop} {px : String → xw_A → Prop} {h : xw_A} {b0 : Nat}  (kr : pr (some (.int 1)) h) : xw G m_Law_count F L bc bs pr px 12 [none, none, none, none] [.ref b0] h := by
  refine x_astore_n d_Law_count_12 rfl (by decide) trivial ?_
  show xw G m_Law_count F L bc bs pr px 13 [none, none, none, some (.ref b0)] [] h
  refine x_iconst (v := 1) d_Law_count_13 (by decide) ?_
  exact x_iret d_Law_count_14 rfl kr
theorem s_Law_count_15 {G : xw_G} {F L bc bs : Nat} {pr : Option Value → xw_A → Prop} {px : String → xw_A → Prop} {h : xw_A}   (kr : pr (some (.int 0)) h) : xw G m_Law_count F L bc bs pr px 15 [none, none, none, none] [] h := by
  refine x_iconst (v := 0) d_Law_count_15 (by decide) ?_
  exact x_iret d_Law_count_16 rfl kr
theorem s_Law_law_0 {G : xw_G} {F L bc bs : Nat} {pr : Option Value → xw_A → Prop} {px : String → xw_A → Prop} {h : xw_A} {a0 : Nat} (u_0 : 1 ≤ bc ∧ 14 ≤ bs) (k : ∀ q0 : Nat, h q0 = none → xw G m_Law_law F L (bc - 1) (bs - 14) pr px 4 [some (.ref a0), none, none, none, none, none, none, none, none] [.ref q0, .ref q0] (xw_up h q0 (.inr (0, [.null, .null, .null, .null, .null, .null, .null, .null, .int 0, .int 0, .int 0, .int 0, .int 0, .int 0])))) : xw G m_Law_law F L bc bs pr px 0 [some (.ref a0), none, none, none, none, none, none, none, none] [] h := by
  refine x_new (ci := 0) (fs := [.null, .null, .null, .null, .null, .null, .null, .null, .int 0, .int 0, .int 0, .int 0, .int 0, .int 0]) d_Law_law_0 (by decide) nw_Law_8.1 nw_Law_8.2.1 nw_Law_8.2.2 df_Shelf u_0 (fun q0 hq0 => ?_)
  show xw G m_Law_law F L (bc - 1) (bs - 14) pr px 3 [some (.ref a0), none, none, none, none, none, none, none, none] [.ref q0] (xw_up h q0 (.inr (0, [.null, .null, .null, .null, .null, .null, .null, .null, .int 0, .int 0, .int 0, .int 0, .int 0, .int 0])))
  refine x_dup d_Law_law_3 rfl ?_
  exact (k q0 hq0)
theorem s_Law_law_7 {G : xw_G} {F L bc bs : Nat} {pr : Option Value → xw_A → Prop} {px : String → xw_A → Prop} {h : xw_A} {a0 : Nat} {b0 : Nat} (u_8 : 1 ≤ bc ∧ 62 ≤ bs) (k : ∀ q8 : Nat, h q8 = none → xw G m_Law_law F L (bc - 1) (bs - 62) pr px 12 [some (.ref a0), some (.ref b0), none, none, none, none, none, none, none] [.ref q8, .ref q8] (xw_up h q8 (.inr (11, [.int 0, .int 0, .int 0, .null, .null, .null, .null, .null, .null, .null, .int 0, .int 0, .null, .null, .null, .int 0, .int 0, .null, .null, .int 0, .int 0, .null, .null, .null, .null, .null, .int 0, .int 0, .int 0, .int 0, .int 0, .int 0, .int 0, .int 0, .int 0, .int 0, .int 0, .int 0, .int 0, .int 0, .int 0, .null, .null, .null, .null, .null, .null, .null, .null, .null, .null, .null, .null, .null, .null, .int 0, .int 0, .null, .null, .null, .null, .int 0])))) : xw G m_Law_law F L bc bs pr px 7 [some (.ref a0), none, none, none, none, none, none, none, none] [.ref b0] h := by
  refine x_astore_n d_Law_law_7 rfl (by decide) rfl ?_
  show xw G m_Law_law F L bc bs pr px 8 [some (.ref a0), some (.ref b0), none, none, none, none, none, none, none] [] h
  refine x_new (ci := 11) (fs := [.int 0, .int 0, .int 0, .null, .null, .null, .null, .null, .null, .null, .int 0, .int 0, .null, .null, .null, .int 0, .int 0, .null, .null, .int 0, .int 0, .null, .null, .null, .null, .null, .int 0, .int 0, .int 0, .int 0, .int 0, .int 0, .int 0, .int 0, .int 0, .int 0, .int 0, .int 0, .int 0, .int 0, .int 0, .null, .null, .null, .null, .null, .null, .null, .null, .null, .null, .null, .null, .null, .null, .int 0, .int 0, .null, .null, .null, .null, .int 0]) d_Law_law_8 (by decide) nw_Law_73.1 nw_Law_73.2.1 nw_Law_73.2.2 df_Model u_8 (fun q8 hq8 => ?_)
  show xw G m_Law_law F L (bc - 1) (bs - 62) pr px 11 [some (.ref a0), some (.ref b0), none, none, none, none, none, none, none] [.ref q8] (xw_up h q8 (.inr (11, [.int 0, .int 0, .int 0, .null, .null, .null, .null, .null, .null, .null, .int 0, .int 0, .null, .null, .null, .int 0, .int 0, .null, .null, .int 0, .int 0, .null, .null, .null, .null, .null, .int 0, .int 0, .int 0, .int 0, .int 0, .int 0, .int 0, .int 0, .int 0, .int 0, .int 0, .int 0, .int 0, .int 0, .int 0, .null, .null, .null, .null, .null, .null, .null, .null, .null, .null, .null, .null, .null, .null, .int 0, .int 0, .null, .null, .null, .null, .int 0])))
  refine x_dup d_Law_law_11 rfl ?_
  exact (k q8 hq8)
theorem s_Law_law_15 {G : xw_G} {F L bc bs : Nat} {pr : Option Value → xw_A → Prop} {px : String → xw_A → Prop} {h : xw_A} {a0 : Nat} {a1 : Nat} {b0 : Nat} (u_17 : 1 ≤ bc ∧ 1 ≤ bs) (u_21 : 1 ≤ (bc - 1) ∧ 1 ≤ (bs - 1)) (k : ∀ q17 : Nat, h q17 = none → ∀ q21 : Nat, (xw_up h q17 (.inl (2, 1, .inr (.inl ((fun _ => 0)))))) q21 = none → xw G m_Law_law F L ((bc - 1) - 1) ((bs - 1) - 1) pr px 28 [some (.ref a0), some (.ref a1), some (.ref b0), some (.ref q17), some (.ref q21), some (.int 0), none, none, none] [] (xw_up (xw_up h q17 (.inl (2, 1, .inr (.inl ((fun _ => 0)))))) q21 (.inl (3, 1, .inr (.inr (.inr (.inl ((fun _ => 0))))))))) : xw G m_Law_law F L bc bs pr px 15 [some (.ref a0), some (.ref a1), none, none, none, none, none, none, none] [.ref b0] h := by
  refine x_astore_n d_Law_law_15 rfl (by decide) rfl ?_
  show xw G m_Law_law F L bc bs pr px 16 [some (.ref a0), some (.ref a1), some (.ref b0), none, none, none, none, none, none] [] h
  refine x_iconst (v := 1) d_Law_law_16 (by decide) ?_
  refine x_lnew (N := 1) d_Law_law_17 (by decide +kernel) (by decide) (by decide) (by decide) u_17 (fun q17 hq17 => ?_)
  show xw G m_Law_law F L (bc - 1) (bs - 1) pr px 19 [some (.ref a0), some (.ref a1), some (.ref b0), none, none, none, none, none, none] [.ref q17] (xw_up h q17 (.inl (2, 1, .inr (.inl ((fun _ => 0))))))
  refine x_astore_n d_Law_law_19 rfl (by decide) rfl ?_
  show xw G m_Law_law F L (bc - 1) (bs - 1) pr px 20 [some (.ref a0), some (.ref a1), some (.ref b0), some (.ref q17), none, none, none, none, none] [] (xw_up h q17 (.inl (2, 1, .inr (.inl ((fun _ => 0))))))
  refine x_iconst (v := 1) d_Law_law_20 (by decide) ?_
  refine x_dnew (N := 1) d_Law_law_21 (by decide +kernel) (by decide) (by decide) (by decide) u_21 (fun q21 hq21 => ?_)
  show xw G m_Law_law F L ((bc - 1) - 1) ((bs - 1) - 1) pr px 23 [some (.ref a0), some (.ref a1), some (.ref b0), some (.ref q17), none, none, none, none, none] [.ref q21] (xw_up (xw_up h q17 (.inl (2, 1, .inr (.inl ((fun _ => 0)))))) q21 (.inl (3, 1, .inr (.inr (.inr (.inl ((fun _ => 0))))))))
  refine x_astore d_Law_law_23 (by decide) rfl ?_
  show xw G m_Law_law F L ((bc - 1) - 1) ((bs - 1) - 1) pr px 25 [some (.ref a0), some (.ref a1), some (.ref b0), some (.ref q17), some (.ref q21), none, none, none, none] [] (xw_up (xw_up h q17 (.inl (2, 1, .inr (.inl ((fun _ => 0)))))) q21 (.inl (3, 1, .inr (.inr (.inr (.inl ((fun _ => 0))))))))
  refine x_iconst (v := 0) d_Law_law_25 (by decide) ?_
  refine x_istore d_Law_law_26 (by decide) rfl ?_
  show xw G m_Law_law F L ((bc - 1) - 1) ((bs - 1) - 1) pr px 28 [some (.ref a0), some (.ref a1), some (.ref b0), some (.ref q17), some (.ref q21), some (.int 0), none, none, none] [] (xw_up (xw_up h q17 (.inl (2, 1, .inr (.inl ((fun _ => 0)))))) q21 (.inl (3, 1, .inr (.inr (.inr (.inl ((fun _ => 0))))))))
  exact (k q17 hq17 q21 hq21)
theorem s_Law_law_28 {G : xw_G} {F L bc bs : Nat} {pr : Option Value → xw_A → Prop} {px : String → xw_A → Prop} {h : xw_A} {a0 : Nat} {a1 : Nat} {a2 : Nat} {a3 : Nat} {a4 : Nat} {x5 : Int32} {N : Nat} {xs : Nat → Int32} (hX : va_X a0 N xs G.2.2.1 G.2.2.1.heap) (kt : ((Int32.ofNat N) - 3) < x5 → xw G m_Law_law F L bc bs pr px 745 [none, none, none, none, none, none, none, none, none] [] h) (kf : ¬ ((Int32.ofNat N) - 3) < x5 → xw G m_Law_law F L bc bs pr px 37 [some (.ref a0), some (.ref a1), some (.ref a2), some (.ref a3), some (.ref a4), some (.int x5), none, none, none] [] h) : xw G m_Law_law F L bc bs pr px 28 [some (.ref a0), some (.ref a1), some (.ref a2), some (.ref a3), some (.ref a4), some (.int x5), none, none, none] [] h := by
  refine x_iload d_Law_law_28 rfl ?_
  refine x_aload_n d_Law_law_30 rfl rfl ?_
  refine x_slen hX d_Law_law_31 ?_
  refine x_iconst (v := 3) d_Law_law_32 (by decide) ?_
  refine x_isub d_Law_law_33 ?_
  refine x_icmp_gt (tgt := 745) d_Law_law_34 (by decide) (fun hc => ?_) (fun hc => ?_)
  · exact x_le (lv' := [none, none, none, none, none, none, none, none, none]) (xw_le_n (xw_le_n (xw_le_n (xw_le_n (xw_le_n (xw_le_n (xw_le_n (xw_le_n (xw_le_n xw_le_e))))))))) (kt hc)
  · exact kf hc
theorem s_Law_law_37 {G : xw_G} {F L bc bs : Nat} {pr : Option Value → xw_A → Prop} {px : String → xw_A → Prop} {h : xw_A} {a0 : Nat} {a1 : Nat} {a2 : Nat} {a3 : Nat} {a4 : Nat} {x5 : Int32} {N : Nat} {xs : Nat → Int32} (hX : va_X a0 N xs G.2.2.1 G.2.2.1.heap) (i_40 : vp_in x5 N) (kw : xw G m_Law_law F L bc bs pr px 44 [some (.ref a0), some (.ref a1), some (.ref a2), some (.ref a3), some (.ref a4), some (.int x5), none, none, none] [.int ((xs x5.toNatClampNeg) &&& 31)] h) : xw G m_Law_law F L bc bs pr px 37 [some (.ref a0), some (.ref a1), some (.ref a2), some (.ref a3), some (.ref a4), some (.int x5), none, none, none] [] h := by
  refine x_aload_n d_Law_law_37 rfl rfl ?_
  refine x_iload d_Law_law_38 rfl ?_
  refine x_sld hX d_Law_law_40 i_40 ?_
  refine x_bipush (v := 31) d_Law_law_41 (by decide) ?_
  refine x_iand d_Law_law_43 ?_
  exact kw
theorem s_Law_law_140 {G : xw_G} {F L bc bs : Nat} {pr : Option Value → xw_A → Prop} {px : String → xw_A → Prop} {h : xw_A} {a0 : Nat} {a1 : Nat} {a2 : Nat} {a3 : Nat} {a4 : Nat} {x5 : Int32} {N : Nat} {xs : Nat → Int32} (hX : va_X a0 N xs G.2.2.1 G.2.2.1.heap) (i_146 : vp_in (x5 + 1) N) (i_156 : vp_in (x5 + 2) N) (k : xw G m_Law_law F L bc bs pr px 164 [some (.ref a0), some (.ref a1), some (.ref a2), some (.ref a3), some (.ref a4), some (.int x5), none, none, none] [.ref a3, .long ((((xs (x5 + 1).toNatClampNeg).toInt64) <<< ((32 : Int32).toInt64 &&& 63)) ||| (((xs (x5 + 2).toNatClampNeg).toInt64) &&& 4294967295)), .ref a1] h) : xw G m_Law_law F L bc bs pr px 140 [some (.ref a0), some (.ref a1), some (.ref a2), some (.ref a3), some (.ref a4), some (.int x5), none, none, none] [] h := by
  refine x_aload_n d_Law_law_140 rfl rfl ?_
  refine x_aload_n d_Law_law_141 rfl rfl ?_
  refine x_iload d_Law_law_142 rfl ?_
  refine x_iconst (v := 1) d_Law_law_144 (by decide) ?_
  refine x_iadd d_Law_law_145 ?_
  refine x_sld hX d_Law_law_146 i_146 ?_
  refine x_i2l d_Law_law_147 rfl ?_
  refine x_bipush (v := 32) d_Law_law_148 (by decide) ?_
  refine x_lshl d_Law_law_150 rfl ?_
  refine x_aload_n d_Law_law_151 rfl rfl ?_
  refine x_iload d_Law_law_152 rfl ?_
  refine x_iconst (v := 2) d_Law_law_154 (by decide) ?_
  refine x_iadd d_Law_law_155 ?_
  refine x_sld hX d_Law_law_156 i_156 ?_
  refine x_i2l d_Law_law_157 rfl ?_
  refine x_ldc2 (v := 4294967295) d_Law_law_158 (by decide +kernel) ?_
  refine x_land d_Law_law_161 ?_
  refine x_lor d_Law_law_162 ?_
  refine x_aload_n d_Law_law_163 rfl rfl ?_
  exact k
theorem s_Law_law_167 {G : xw_G} {F L bc bs : Nat} {pr : Option Value → xw_A → Prop} {px : String → xw_A → Prop} {h : xw_A} {a0 : Nat} {a1 : Nat} {a2 : Nat} {a3 : Nat} {a4 : Nat} {x5 : Int32} {y0 : Int32} {N : Nat} {xs : Nat → Int32} (hX : va_X a0 N xs G.2.2.1 G.2.2.1.heap) (i_175 : vp_in (x5 + 1) N) (i_185 : vp_in (x5 + 2) N) (k : xw G m_Law_law F L bc bs pr px 192 [some (.ref a0), some (.ref a1), some (.ref a2), some (.ref a3), some (.ref a4), some (.int x5), some (.int y0), none, none] [.long ((((xs (x5 + 1).toNatClampNeg).toInt64) <<< ((32 : Int32).toInt64 &&& 63)) ||| (((xs (x5 + 2).toNatClampNeg).toInt64) &&& 4294967295)), .ref a2] h) : xw G m_Law_law F L bc bs pr px 167 [some (.ref a0), some (.ref a1), some (.ref a2), some (.ref a3), some (.ref a4), some (.int x5), none, none, none] [.int y0] h := by
  refine x_istore d_Law_law_167 (by decide) rfl ?_
  show xw G m_Law_law F L bc bs pr px 169 [some (.ref a0), some (.ref a1), some (.ref a2), some (.ref a3), some (.ref a4), some (.int x5), some (.int y0), none, none] [] h
  refine x_aload_n d_Law_law_169 rfl rfl ?_
  refine x_aload_n d_Law_law_170 rfl rfl ?_
  refine x_iload d_Law_law_171 rfl ?_
  refine x_iconst (v := 1) d_Law_law_173 (by decide) ?_
  refine x_iadd d_Law_law_174 ?_
  refine x_sld hX d_Law_law_175 i_175 ?_
  refine x_i2l d_Law_law_176 rfl ?_
  refine x_bipush (v := 32) d_Law_law_177 (by decide) ?_
  refine x_lshl d_Law_law_179 rfl ?_
  refine x_aload_n d_Law_law_180 rfl rfl ?_
  refine x_iload d_Law_law_181 rfl ?_
  refine x_iconst (v := 2) d_Law_law_183 (by decide) ?_
  refine x_iadd d_Law_law_184 ?_
  refine x_sld hX d_Law_law_185 i_185 ?_
  refine x_i2l d_Law_law_186 rfl ?_
  refine x_ldc2 (v := 4294967295) d_Law_law_187 (by decide +kernel) ?_
  refine x_land d_Law_law_190 ?_
  refine x_lor d_Law_law_191 ?_
  exact k
theorem s_Law_law_195 {G : xw_G} {F L bc bs : Nat} {pr : Option Value → xw_A → Prop} {px : String → xw_A → Prop} {h : xw_A} {a0 : Nat} {a1 : Nat} {a2 : Nat} {a3 : Nat} {a4 : Nat} {x5 : Int32} {y0 : Int32}  (k : xw G m_Law_law F L bc bs pr px 739 [some (.ref a0), some (.ref a1), some (.ref a2), some (.ref a3), some (.ref a4), some (.int x5), none, none, none] [] h) : xw G m_Law_law F L bc bs pr px 195 [some (.ref a0), some (.ref a1), some (.ref a2), some (.ref a3), some (.ref a4), some (.int x5), none, none, none] [.int y0] h := by
  refine x_istore d_Law_law_195 (by decide) trivial ?_
  show xw G m_Law_law F L bc bs pr px 197 [some (.ref a0), some (.ref a1), some (.ref a2), some (.ref a3), some (.ref a4), some (.int x5), none, some (.int y0), none] [] h
  refine x_goto (tgt := 739) d_Law_law_197 (by decide) ?_
  exact x_le (lv' := [some (.ref a0), some (.ref a1), some (.ref a2), some (.ref a3), some (.ref a4), some (.int x5), none, none, none]) (xw_le_s (xw_le_s (xw_le_s (xw_le_s (xw_le_s (xw_le_s (xw_le_n (xw_le_n (xw_le_n xw_le_e))))))))) (k)
theorem s_Law_law_200 {G : xw_G} {F L bc bs : Nat} {pr : Option Value → xw_A → Prop} {px : String → xw_A → Prop} {h : xw_A} {a0 : Nat} {a1 : Nat} {a2 : Nat} {a3 : Nat} {a4 : Nat} {x5 : Int32}  (k : xw G m_Law_law F L bc bs pr px 201 [some (.ref a0), some (.ref a1), some (.ref a2), some (.ref a3), some (.ref a4), some (.int x5), none, none, none] [.ref a1] h) : xw G m_Law_law F L bc bs pr px 200 [some (.ref a0), some (.ref a1), some (.ref a2), some (.ref a3), some (.ref a4), some (.int x5), none, none, none] [] h := by
  refine x_aload_n d_Law_law_200 rfl rfl ?_
  exact k
theorem s_Law_law_204 {G : xw_G} {F L bc bs : Nat} {pr : Option Value → xw_A → Prop} {px : String → xw_A → Prop} {h : xw_A} {a0 : Nat} {a1 : Nat} {a2 : Nat} {a3 : Nat} {a4 : Nat} {x5 : Int32} {y0 : Int32}  (k : xw G m_Law_law F L bc bs pr px 206 [some (.ref a0), some (.ref a1), some (.ref a2), some (.ref a3), some (.ref a4), some (.int x5), none, none, none] [.ref a2] h) : xw G m_Law_law F L bc bs pr px 204 [some (.ref a0), some (.ref a1), some (.ref a2), some (.ref a3), some (.ref a4), some (.int x5), none, none, none] [.int y0] h := by
  refine x_pop d_Law_law_204 rfl ?_
  refine x_aload_n d_Law_law_205 rfl rfl ?_
  exact k
theorem s_Law_law_209 {G : xw_G} {F L bc bs : Nat} {pr : Option Value → xw_A → Prop} {px : String → xw_A → Prop} {h : xw_A} {a0 : Nat} {a1 : Nat} {a2 : Nat} {a3 : Nat} {a4 : Nat} {x5 : Int32} {y0 : Int32}  (k : xw G m_Law_law F L bc bs pr px 739 [some (.ref a0), some (.ref a1), some (.ref a2), some (.ref a3), some (.ref a4), some (.int x5), none, none, none] [] h) : xw G m_Law_law F L bc bs pr px 209 [some (.ref a0), some (.ref a1), some (.ref a2), some (.ref a3), some (.ref a4), some (.int x5), none, none, none] [.int y0] h := by
  refine x_pop d_Law_law_209 rfl ?_
  refine x_goto (tgt := 739) d_Law_law_210 (by decide) ?_
  exact k
theorem s_Law_law_213 {G : xw_G} {F L bc bs : Nat} {pr : Option Value → xw_A → Prop} {px : String → xw_A → Prop} {h : xw_A} {a0 : Nat} {a1 : Nat} {a2 : Nat} {a3 : Nat} {a4 : Nat} {x5 : Int32} {N : Nat} {xs : Nat → Int32} (hX : va_X a0 N xs G.2.2.1 G.2.2.1.heap) (i_219 : vp_in (x5 + 1) N) (k : xw G m_Law_law F L bc bs pr px 221 [some (.ref a0), some (.ref a1), some (.ref a2), some (.ref a3), some (.ref a4), some (.int x5), none, none, none] [.ref a3, .int (xs (x5 + 1).toNatClampNeg), .ref a1] h) : xw G m_Law_law F L bc bs pr px 213 [some (.ref a0), some (.ref a1), some (.ref a2), some (.ref a3), some (.ref a4), some (.int x5), none, none, none] [] h := by
  refine x_aload_n d_Law_law_213 rfl rfl ?_
  refine x_aload_n d_Law_law_214 rfl rfl ?_
  refine x_iload d_Law_law_215 rfl ?_
  refine x_iconst (v := 1) d_Law_law_217 (by decide) ?_
  refine x_iadd d_Law_law_218 ?_
  refine x_sld hX d_Law_law_219 i_219 ?_
  refine x_aload_n d_Law_law_220 rfl rfl ?_
  exact k
theorem s_Law_law_224 {G : xw_G} {F L bc bs : Nat} {pr : Option Value → xw_A → Prop} {px : String → xw_A → Prop} {h : xw_A} {a0 : Nat} {a1 : Nat} {a2 : Nat} {a3 : Nat} {a4 : Nat} {x5 : Int32} {y0 : Int32} {N : Nat} {xs : Nat → Int32} (hX : va_X a0 N xs G.2.2.1 G.2.2.1.heap) (i_232 : vp_in (x5 + 1) N) (k : xw G m_Law_law F L bc bs pr px 233 [some (.ref a0), some (.ref a1), some (.ref a2), some (.ref a3), some (.ref a4), some (.int x5), some (.int y0), none, none] [.int (xs (x5 + 1).toNatClampNeg), .ref a2] h) : xw G m_Law_law F L bc bs pr px 224 [some (.ref a0), some (.ref a1), some (.ref a2), some (.ref a3), some (.ref a4), some (.int x5), none, none, none] [.int y0] h := by
  refine x_istore d_Law_law_224 (by decide) rfl ?_
  show xw G m_Law_law F L bc bs pr px 226 [some (.ref a0), some (.ref a1), some (.ref a2), some (.ref a3), some (.ref a4), some (.int x5), some (.int y0), none, none] [] h
  refine x_aload_n d_Law_law_226 rfl rfl ?_
  refine x_aload_n d_Law_law_227 rfl rfl ?_
  refine x_iload d_Law_law_228 rfl ?_
  refine x_iconst (v := 1) d_Law_law_230 (by decide) ?_
  refine x_iadd d_Law_law_231 ?_
  refine x_sld hX d_Law_law_232 i_232 ?_
  exact k
theorem s_Law_law_236 {G : xw_G} {F L bc bs : Nat} {pr : Option Value → xw_A → Prop} {px : String → xw_A → Prop} {h : xw_A} {a0 : Nat} {a1 : Nat} {a2 : Nat} {a3 : Nat} {a4 : Nat} {x5 : Int32} {y0 : Int32}  (k : xw G m_Law_law F L bc bs pr px 739 [some (.ref a0), some (.ref a1), some (.ref a2), some (.ref a3), some (.ref a4), some (.int x5), none, none, none] [] h) : xw G m_Law_law F L bc bs pr px 236 [some (.ref a0), some (.ref a1), some (.ref a2), some (.ref a3), some (.ref a4), some (.int x5), none, none, none] [.int y0] h := by
  refine x_istore d_Law_law_236 (by decide) trivial ?_
  show xw G m_Law_law F L bc bs pr px 238 [some (.ref a0), some (.ref a1), some (.ref a2), some (.ref a3), some (.ref a4), some (.int x5), none, some (.int y0), none] [] h
  refine x_goto (tgt := 739) d_Law_law_238 (by decide) ?_
  exact x_le (lv' := [some (.ref a0), some (.ref a1), some (.ref a2), some (.ref a3), some (.ref a4), some (.int x5), none, none, none]) (xw_le_s (xw_le_s (xw_le_s (xw_le_s (xw_le_s (xw_le_s (xw_le_n (xw_le_n (xw_le_n xw_le_e))))))))) (k)
theorem s_Law_law_241 {G : xw_G} {F L bc bs : Nat} {pr : Option Value → xw_A → Prop} {px : String → xw_A → Prop} {h : xw_A} {a0 : Nat} {a1 : Nat} {a2 : Nat} {a3 : Nat} {a4 : Nat} {x5 : Int32}  (k : xw G m_Law_law F L bc bs pr px 243 [some (.ref a0), some (.ref a1), some (.ref a2), some (.ref a3), some (.ref a4), some (.int x5), none, none, none] [.ref a3, .ref a1] h) : xw G m_Law_law F L bc bs pr px 241 [some (.ref a0), some (.ref a1), some (.ref a2), some (.ref a3), some (.ref a4), some (.int x5), none, none, none] [] h := by
  refine x_aload_n d_Law_law_241 rfl rfl ?_
  refine x_aload_n d_Law_law_242 rfl rfl ?_
  exact k
theorem s_Law_law_246 {G : xw_G} {F L bc bs : Nat} {pr : Option Value → xw_A → Prop} {px : String → xw_A → Prop} {h : xw_A} {a0 : Nat} {a1 : Nat} {a2 : Nat} {a3 : Nat} {a4 : Nat} {x5 : Int32} {y0 : Int32}  (k : xw G m_Law_law F L bc bs pr px 249 [some (.ref a0), some (.ref a1), some (.ref a2), some (.ref a3), some (.ref a4), some (.int x5), some (.int y0), none, none] [.ref a2] h) : xw G m_Law_law F L bc bs pr px 246 [some (.ref a0), some (.ref a1), some (.ref a2), some (.ref a3), some (.ref a4), some (.int x5), none, none, none] [.int y0] h := by
  refine x_istore d_Law_law_246 (by decide) rfl ?_
  show xw G m_Law_law F L bc bs pr px 248 [some (.ref a0), some (.ref a1), some (.ref a2), some (.ref a3), some (.ref a4), some (.int x5), some (.int y0), none, none] [] h
  refine x_aload_n d_Law_law_248 rfl rfl ?_
  exact k
theorem s_Law_law_252 {G : xw_G} {F L bc bs : Nat} {pr : Option Value → xw_A → Prop} {px : String → xw_A → Prop} {h : xw_A} {a0 : Nat} {a1 : Nat} {a2 : Nat} {a3 : Nat} {a4 : Nat} {x5 : Int32} {y0 : Int32}  (k : xw G m_Law_law F L bc bs pr px 739 [some (.ref a0), some (.ref a1), some (.ref a2), some (.ref a3), some (.ref a4), some (.int x5), none, none, none] [] h) : xw G m_Law_law F L bc bs pr px 252 [some (.ref a0), some (.ref a1), some (.ref a2), some (.ref a3), some (.ref a4), some (.int x5), none, none, none] [.int y0] h := by
  refine x_istore d_Law_law_252 (by decide) trivial ?_
  show xw G m_Law_law F L bc bs pr px 254 [some (.ref a0), some (.ref a1), some (.ref a2), some (.ref a3), some (.ref a4), some (.int x5), none, some (.int y0), none] [] h
  refine x_goto (tgt := 739) d_Law_law_254 (by decide) ?_
  exact x_le (lv' := [some (.ref a0), some (.ref a1), some (.ref a2), some (.ref a3), some (.ref a4), some (.int x5), none, none, none]) (xw_le_s (xw_le_s (xw_le_s (xw_le_s (xw_le_s (xw_le_s (xw_le_n (xw_le_n (xw_le_n xw_le_e))))))))) (k)
theorem s_Law_law_257 {G : xw_G} {F L bc bs : Nat} {pr : Option Value → xw_A → Prop} {px : String → xw_A → Prop} {h : xw_A} {a0 : Nat} {a1 : Nat} {a2 : Nat} {a3 : Nat} {a4 : Nat} {x5 : Int32} {N : Nat} {xs : Nat → Int32} (hX : va_X a0 N xs G.2.2.1 G.2.2.1.heap) (i_263 : vp_in (x5 + 1) N) (k : xw G m_Law_law F L bc bs pr px 265 [some (.ref a0), some (.ref a1), some (.ref a2), some (.ref a3), some (.ref a4), some (.int x5), none, none, none] [.ref a3, .int (xs (x5 + 1).toNatClampNeg), .ref a1] h) : xw G m_Law_law F L bc bs pr px 257 [some (.ref a0), some (.ref a1), some (.ref a2), some (.ref a3), some (.ref a4), some (.int x5), none, none, none] [] h := by
  refine x_aload_n d_Law_law_257 rfl rfl ?_
  refine x_aload_n d_Law_law_258 rfl rfl ?_
  refine x_iload d_Law_law_259 rfl ?_
  refine x_iconst (v := 1) d_Law_law_261 (by decide) ?_
  refine x_iadd d_Law_law_262 ?_
  refine x_sld hX d_Law_law_263 i_263 ?_
  refine x_aload_n d_Law_law_264 rfl rfl ?_
  exact k
theorem s_Law_law_268 {G : xw_G} {F L bc bs : Nat} {pr : Option Value → xw_A → Prop} {px : String → xw_A → Prop} {h : xw_A} {a0 : Nat} {a1 : Nat} {a2 : Nat} {a3 : Nat} {a4 : Nat} {x5 : Int32} {y0 : Int32} {N : Nat} {xs : Nat → Int32} (hX : va_X a0 N xs G.2.2.1 G.2.2.1.heap) (i_276 : vp_in (x5 + 1) N) (k : xw G m_Law_law F L bc bs pr px 277 [some (.ref a0), some (.ref a1), some (.ref a2), some (.ref a3), some (.ref a4), some (.int x5), some (.int y0), none, none] [.int (xs (x5 + 1).toNatClampNeg), .ref a2] h) : xw G m_Law_law F L bc bs pr px 268 [some (.ref a0), some (.ref a1), some (.ref a2), some (.ref a3), some (.ref a4), some (.int x5), none, none, none] [.int y0] h := by
  refine x_istore d_Law_law_268 (by decide) rfl ?_
  show xw G m_Law_law F L bc bs pr px 270 [some (.ref a0), some (.ref a1), some (.ref a2), some (.ref a3), some (.ref a4), some (.int x5), some (.int y0), none, none] [] h
  refine x_aload_n d_Law_law_270 rfl rfl ?_
  refine x_aload_n d_Law_law_271 rfl rfl ?_
  refine x_iload d_Law_law_272 rfl ?_
  refine x_iconst (v := 1) d_Law_law_274 (by decide) ?_
  refine x_iadd d_Law_law_275 ?_
  refine x_sld hX d_Law_law_276 i_276 ?_
  exact k
theorem s_Law_law_280 {G : xw_G} {F L bc bs : Nat} {pr : Option Value → xw_A → Prop} {px : String → xw_A → Prop} {h : xw_A} {a0 : Nat} {a1 : Nat} {a2 : Nat} {a3 : Nat} {a4 : Nat} {x5 : Int32} {y0 : Int32}  (k : xw G m_Law_law F L bc bs pr px 739 [some (.ref a0), some (.ref a1), some (.ref a2), some (.ref a3), some (.ref a4), some (.int x5), none, none, none] [] h) : xw G m_Law_law F L bc bs pr px 280 [some (.ref a0), some (.ref a1), some (.ref a2), some (.ref a3), some (.ref a4), some (.int x5), none, none, none] [.int y0] h := by
  refine x_istore d_Law_law_280 (by decide) trivial ?_
  show xw G m_Law_law F L bc bs pr px 282 [some (.ref a0), some (.ref a1), some (.ref a2), some (.ref a3), some (.ref a4), some (.int x5), none, some (.int y0), none] [] h
  refine x_goto (tgt := 739) d_Law_law_282 (by decide) ?_
  exact x_le (lv' := [some (.ref a0), some (.ref a1), some (.ref a2), some (.ref a3), some (.ref a4), some (.int x5), none, none, none]) (xw_le_s (xw_le_s (xw_le_s (xw_le_s (xw_le_s (xw_le_s (xw_le_n (xw_le_n (xw_le_n xw_le_e))))))))) (k)
theorem s_Law_law_285 {G : xw_G} {F L bc bs : Nat} {pr : Option Value → xw_A → Prop} {px : String → xw_A → Prop} {h : xw_A} {a0 : Nat} {a1 : Nat} {a2 : Nat} {a3 : Nat} {a4 : Nat} {x5 : Int32} {N : Nat} {xs : Nat → Int32} (hX : va_X a0 N xs G.2.2.1 G.2.2.1.heap) (i_291 : vp_in (x5 + 1) N) (k : xw G m_Law_law F L bc bs pr px 293 [some (.ref a0), some (.ref a1), some (.ref a2), some (.ref a3), some (.ref a4), some (.int x5), none, none, none] [.ref a3, .int (xs (x5 + 1).toNatClampNeg), .ref a1] h) : xw G m_Law_law F L bc bs pr px 285 [some (.ref a0), some (.ref a1), some (.ref a2), some (.ref a3), some (.ref a4), some (.int x5), none, none, none] [] h := by
  refine x_aload_n d_Law_law_285 rfl rfl ?_
  refine x_aload_n d_Law_law_286 rfl rfl ?_
  refine x_iload d_Law_law_287 rfl ?_
  refine x_iconst (v := 1) d_Law_law_289 (by decide) ?_
  refine x_iadd d_Law_law_290 ?_
  refine x_sld hX d_Law_law_291 i_291 ?_
  refine x_aload_n d_Law_law_292 rfl rfl ?_
  exact k
theorem s_Law_law_296 {G : xw_G} {F L bc bs : Nat} {pr : Option Value → xw_A → Prop} {px : String → xw_A → Prop} {h : xw_A} {a0 : Nat} {a1 : Nat} {a2 : Nat} {a3 : Nat} {a4 : Nat} {x5 : Int32} {y0 : Int32} {N : Nat} {xs : Nat → Int32} (hX : va_X a0 N xs G.2.2.1 G.2.2.1.heap) (i_304 : vp_in (x5 + 1) N) (k : xw G m_Law_law F L bc bs pr px 305 [some (.ref a0), some (.ref a1), some (.ref a2), some (.ref a3), some (.ref a4), some (.int x5), some (.int y0), none, none] [.int (xs (x5 + 1).toNatClampNeg), .ref a2] h) : xw G m_Law_law F L bc bs pr px 296 [some (.ref a0), some (.ref a1), some (.ref a2), some (.ref a3), some (.ref a4), some (.int x5), none, none, none] [.int y0] h := by
  refine x_istore d_Law_law_296 (by decide) rfl ?_
  show xw G m_Law_law F L bc bs pr px 298 [some (.ref a0), some (.ref a1), some (.ref a2), some (.ref a3), some (.ref a4), some (.int x5), some (.int y0), none, none] [] h
  refine x_aload_n d_Law_law_298 rfl rfl ?_
  refine x_aload_n d_Law_law_299 rfl rfl ?_
  refine x_iload d_Law_law_300 rfl ?_
  refine x_iconst (v := 1) d_Law_law_302 (by decide) ?_
  refine x_iadd d_Law_law_303 ?_
  refine x_sld hX d_Law_law_304 i_304 ?_
  exact k
theorem s_Law_law_308 {G : xw_G} {F L bc bs : Nat} {pr : Option Value → xw_A → Prop} {px : String → xw_A → Prop} {h : xw_A} {a0 : Nat} {a1 : Nat} {a2 : Nat} {a3 : Nat} {a4 : Nat} {x5 : Int32} {x6 : Int32} {y0 : Int32}  (k : xw G m_Law_law F L bc bs pr px 311 [some (.ref a0), some (.ref a1), some (.ref a2), some (.ref a3), some (.ref a4), some (.int x5), some (.int x6), some (.int y0), none] [.ref a2] h) : xw G m_Law_law F L bc bs pr px 308 [some (.ref a0), some (.ref a1), some (.ref a2), some (.ref a3), some (.ref a4), some (.int x5), some (.int x6), none, none] [.int y0] h := by
  refine x_istore d_Law_law_308 (by decide) rfl ?_
  show xw G m_Law_law F L bc bs pr px 310 [some (.ref a0), some (.ref a1), some (.ref a2), some (.ref a3), some (.ref a4), some (.int x5), some (.int x6), some (.int y0), none] [] h
  refine x_aload_n d_Law_law_310 rfl rfl ?_
  exact k
theorem s_Law_law_314 {G : xw_G} {F L bc bs : Nat} {pr : Option Value → xw_A → Prop} {px : String → xw_A → Prop} {h : xw_A} {a0 : Nat} {a1 : Nat} {a2 : Nat} {a3 : Nat} {a4 : Nat} {x5 : Int32} {x6 : Int32} {x7 : Int32} {y0 : Int32}  (kt : y0 = x6 → xw G m_Law_law F L bc bs pr px 321 [some (.ref a0), some (.ref a1), some (.ref a2), some (.ref a3), some (.ref a4), some (.int x5), some (.int x6), some (.int x7), none] [] h) (kf : ¬ y0 = x6 → xw G m_Law_law F L bc bs pr px 319 [none, none, none, none, none, none, none, none, none] [] h) : xw G m_Law_law F L bc bs pr px 314 [some (.ref a0), some (.ref a1), some (.ref a2), some (.ref a3), some (.ref a4), some (.int x5), some (.int x6), some (.int x7), none] [.int y0] h := by
  refine x_iload d_Law_law_314 rfl ?_
  refine x_icmp_eq (tgt := 321) d_Law_law_316 (by decide) (fun hc => ?_) (fun hc => ?_)
  · exact kt hc
  · exact x_le (lv' := [none, none, none, none, none, none, none, none, none]) (xw_le_n (xw_le_n (xw_le_n (xw_le_n (xw_le_n (xw_le_n (xw_le_n (xw_le_n (xw_le_n xw_le_e))))))))) (kf hc)
theorem s_Law_law_319 {G : xw_G} {F L bc bs : Nat} {pr : Option Value → xw_A → Prop} {px : String → xw_A → Prop} {h : xw_A}   (kr : pr (some (.int 0)) h) : xw G m_Law_law F L bc bs pr px 319 [none, none, none, none, none, none, none, none, none] [] h := by
  refine x_iconst (v := 0) d_Law_law_319 (by decide) ?_
  exact x_zret d_Law_law_320 rfl rfl kr
theorem s_Law_law_321 {G : xw_G} {F L bc bs : Nat} {pr : Option Value → xw_A → Prop} {px : String → xw_A → Prop} {h : xw_A} {a0 : Nat} {a1 : Nat} {a2 : Nat} {a3 : Nat} {a4 : Nat} {x5 : Int32} {x6 : Int32} {x7 : Int32}  (kt : ¬ x6 = 0 → xw G m_Law_law F L bc bs pr px 338 [some (.ref a0), some (.ref a1), some (.ref a2), some (.ref a3), some (.ref a4), some (.int x5), none, none, none] [] h) (kf : x6 = 0 → xw G m_Law_law F L bc bs pr px 326 [some (.ref a0), some (.ref a1), some (.ref a2), some (.ref a3), some (.ref a4), some (.int x5), none, some (.int x7), none] [] h) : xw G m_Law_law F L bc bs pr px 321 [some (.ref a0), some (.ref a1), some (.ref a2), some (.ref a3), some (.ref a4), some (.int x5), some (.int x6), some (.int x7), none] [] h := by
  refine x_iload d_Law_law_321 rfl ?_
  refine x_if_ne (tgt := 338) d_Law_law_323 (by decide) (fun hc => ?_) (fun hc => ?_)
  · exact x_le (lv' := [some (.ref a0), some (.ref a1), some (.ref a2), some (.ref a3), some (.ref a4), some (.int x5), none, none, none]) (xw_le_s (xw_le_s (xw_le_s (xw_le_s (xw_le_s (xw_le_s (xw_le_n (xw_le_n (xw_le_n xw_le_e))))))))) (kt hc)
  · exact x_le (lv' := [some (.ref a0), some (.ref a1), some (.ref a2), some (.ref a3), some (.ref a4), some (.int x5), none, some (.int x7), none]) (xw_le_s (xw_le_s (xw_le_s (xw_le_s (xw_le_s (xw_le_s (xw_le_n (xw_le_s (xw_le_n xw_le_e))))))))) (kf hc)
theorem s_Law_law_326 {G : xw_G} {F L bc bs : Nat} {pr : Option Value → xw_A → Prop} {px : String → xw_A → Prop} {h : xw_A} {a0 : Nat} {a1 : Nat} {a2 : Nat} {a3 : Nat} {a4 : Nat} {x5 : Int32} {x7 : Int32} {n_a3 : Nat} {f_a3 : Nat → Int64} (e_a3 : h a3 = some (.inl (2, n_a3, .inr (.inl f_a3)))) (i_328 : vp_in 0 n_a3) (kt : (lg_cmp (f_a3 (0 : Int32).toNatClampNeg) x7.toInt64) = 0 → xw G m_Law_law F L bc bs pr px 338 [some (.ref a0), some (.ref a1), some (.ref a2), some (.ref a3), some (.ref a4), some (.int x5), none, none, none] [] h) (kf : ¬ (lg_cmp (f_a3 (0 : Int32).toNatClampNeg) x7.toInt64) = 0 → xw G m_Law_law F L bc bs pr px 336 [none, none, none, none, none, none, none, none, none] [] h) : xw G m_Law_law F L bc bs pr px 326 [some (.ref a0), some (.ref a1), some (.ref a2), some (.ref a3), some (.ref a4), some (.int x5), none, some (.int x7), none] [] h := by
  refine x_aload_n d_Law_law_326 rfl rfl ?_
  refine x_iconst (v := 0) d_Law_law_327 (by decide) ?_
  refine x_lald d_Law_law_328 e_a3 i_328 ?_
  refine x_iload d_Law_law_329 rfl ?_
  refine x_i2l d_Law_law_331 rfl ?_
  refine x_lcmp d_Law_law_332 ?_
  refine x_if_eq (tgt := 338) d_Law_law_333 (by decide) (fun hc => ?_) (fun hc => ?_)
  · exact x_le (lv' := [some (.ref a0), some (.ref a1), some (.ref a2), some (.ref a3), some (.ref a4), some (.int x5), none, none, none]) (xw_le_s (xw_le_s (xw_le_s (xw_le_s (xw_le_s (xw_le_s (xw_le_n (xw_le_n (xw_le_n xw_le_e))))))))) (kt hc)
  · exact x_le (lv' := [none, none, none, none, none, none, none, none, none]) (xw_le_n (xw_le_n (xw_le_n (xw_le_n (xw_le_n (xw_le_n (xw_le_n (xw_le_n (xw_le_n xw_le_e))))))))) (kf hc)
theorem s_Law_law_336 {G : xw_G} {F L bc bs : Nat} {pr : Option Value → xw_A → Prop} {px : String → xw_A → Prop} {h : xw_A}   (kr : pr (some (.int 0)) h) : xw G m_Law_law F L bc bs pr px 336 [none, none, none, none, none, none, none, none, none] [] h := by
  refine x_iconst (v := 0) d_Law_law_336 (by decide) ?_
  exact x_zret d_Law_law_337 rfl rfl kr
theorem s_Law_law_338 {G : xw_G} {F L bc bs : Nat} {pr : Option Value → xw_A → Prop} {px : String → xw_A → Prop} {h : xw_A} {a0 : Nat} {a1 : Nat} {a2 : Nat} {a3 : Nat} {a4 : Nat} {x5 : Int32}  (k : xw G m_Law_law F L bc bs pr px 739 [some (.ref a0), some (.ref a1), some (.ref a2), some (.ref a3), some (.ref a4), some (.int x5), none, none, none] [] h) : xw G m_Law_law F L bc bs pr px 338 [some (.ref a0), some (.ref a1), some (.ref a2), some (.ref a3), some (.ref a4), some (.int x5), none, none, none] [] h := by
  refine x_goto (tgt := 739) d_Law_law_338 (by decide) ?_
  exact k
theorem s_Law_law_341 {G : xw_G} {F L bc bs : Nat} {pr : Option Value → xw_A → Prop} {px : String → xw_A → Prop} {h : xw_A} {a0 : Nat} {a1 : Nat} {a2 : Nat} {a3 : Nat} {a4 : Nat} {x5 : Int32}  (k : xw G m_Law_law F L bc bs pr px 342 [some (.ref a0), some (.ref a1), some (.ref a2), some (.ref a3), some (.ref a4), some (.int x5), none, none, none] [.ref a1] h) : xw G m_Law_law F L bc bs pr px 341 [some (.ref a0), some (.ref a1), some (.ref a2), some (.ref a3), some (.ref a4), some (.int x5), none, none, none] [] h := by
  refine x_aload_n d_Law_law_341 rfl rfl ?_
  exact k
theorem s_Law_law_345 {G : xw_G} {F L bc bs : Nat} {pr : Option Value → xw_A → Prop} {px : String → xw_A → Prop} {h : xw_A} {a0 : Nat} {a1 : Nat} {a2 : Nat} {a3 : Nat} {a4 : Nat} {x5 : Int32} {y0 : Int32}  (k : xw G m_Law_law F L bc bs pr px 348 [some (.ref a0), some (.ref a1), some (.ref a2), some (.ref a3), some (.ref a4), some (.int x5), some (.int y0), none, none] [.ref a2] h) : xw G m_Law_law F L bc bs pr px 345 [some (.ref a0), some (.ref a1), some (.ref a2), some (.ref a3), some (.ref a4), some (.int x5), none, none, none] [.int y0] h := by
  refine x_istore d_Law_law_345 (by decide) rfl ?_
  show xw G m_Law_law F L bc bs pr px 347 [some (.ref a0), some (.ref a1), some (.ref a2), some (.ref a3), some (.ref a4), some (.int x5), some (.int y0), none, none] [] h
  refine x_aload_n d_Law_law_347 rfl rfl ?_
  exact k
theorem s_Law_law_351 {G : xw_G} {F L bc bs : Nat} {pr : Option Value → xw_A → Prop} {px : String → xw_A → Prop} {h : xw_A} {a0 : Nat} {a1 : Nat} {a2 : Nat} {a3 : Nat} {a4 : Nat} {x5 : Int32}  (k : xw G m_Law_law F L bc bs pr px 739 [some (.ref a0), some (.ref a1), some (.ref a2), some (.ref a3), some (.ref a4), some (.int x5), none, none, none] [] h) : xw G m_Law_law F L bc bs pr px 351 [some (.ref a0), some (.ref a1), some (.ref a2), some (.ref a3), some (.ref a4), some (.int x5), none, none, none] [] h := by
  refine x_goto (tgt := 739) d_Law_law_351 (by decide) ?_
  exact k
theorem s_Law_law_354 {G : xw_G} {F L bc bs : Nat} {pr : Option Value → xw_A → Prop} {px : String → xw_A → Prop} {h : xw_A} {a0 : Nat} {a1 : Nat} {a2 : Nat} {a3 : Nat} {a4 : Nat} {x5 : Int32}  (k : xw G m_Law_law F L bc bs pr px 356 [some (.ref a0), some (.ref a1), some (.ref a2), some (.ref a3), some (.ref a4), some (.int x5), none, none, none] [.ref a3, .ref a1] h) : xw G m_Law_law F L bc bs pr px 354 [some (.ref a0), some (.ref a1), some (.ref a2), some (.ref a3), some (.ref a4), some (.int x5), none, none, none] [] h := by
  refine x_aload_n d_Law_law_354 rfl rfl ?_
  refine x_aload_n d_Law_law_355 rfl rfl ?_
  exact k
theorem s_Law_law_359 {G : xw_G} {F L bc bs : Nat} {pr : Option Value → xw_A → Prop} {px : String → xw_A → Prop} {h : xw_A} {a0 : Nat} {a1 : Nat} {a2 : Nat} {a3 : Nat} {a4 : Nat} {x5 : Int32} {y0 : Int32}  (k : xw G m_Law_law F L bc bs pr px 362 [some (.ref a0), some (.ref a1), some (.ref a2), some (.ref a3), some (.ref a4), some (.int x5), some (.int y0), none, none] [.ref a2] h) : xw G m_Law_law F L bc bs pr px 359 [some (.ref a0), some (.ref a1), some (.ref a2), some (.ref a3), some (.ref a4), some (.int x5), none, none, none] [.int y0] h := by
  refine x_istore d_Law_law_359 (by decide) rfl ?_
  show xw G m_Law_law F L bc bs pr px 361 [some (.ref a0), some (.ref a1), some (.ref a2), some (.ref a3), some (.ref a4), some (.int x5), some (.int y0), none, none] [] h
  refine x_aload_n d_Law_law_361 rfl rfl ?_
  exact k
theorem s_Law_law_365 {G : xw_G} {F L bc bs : Nat} {pr : Option Value → xw_A → Prop} {px : String → xw_A → Prop} {h : xw_A} {a0 : Nat} {a1 : Nat} {a2 : Nat} {a3 : Nat} {a4 : Nat} {x5 : Int32} {y0 : Int32}  (k : xw G m_Law_law F L bc bs pr px 739 [some (.ref a0), some (.ref a1), some (.ref a2), some (.ref a3), some (.ref a4), some (.int x5), none, none, none] [] h) : xw G m_Law_law F L bc bs pr px 365 [some (.ref a0), some (.ref a1), some (.ref a2), some (.ref a3), some (.ref a4), some (.int x5), none, none, none] [.int y0] h := by
  refine x_istore d_Law_law_365 (by decide) trivial ?_
  show xw G m_Law_law F L bc bs pr px 367 [some (.ref a0), some (.ref a1), some (.ref a2), some (.ref a3), some (.ref a4), some (.int x5), none, some (.int y0), none] [] h
  refine x_goto (tgt := 739) d_Law_law_367 (by decide) ?_
  exact x_le (lv' := [some (.ref a0), some (.ref a1), some (.ref a2), some (.ref a3), some (.ref a4), some (.int x5), none, none, none]) (xw_le_s (xw_le_s (xw_le_s (xw_le_s (xw_le_s (xw_le_s (xw_le_n (xw_le_n (xw_le_n xw_le_e))))))))) (k)
theorem s_Law_law_370 {G : xw_G} {F L bc bs : Nat} {pr : Option Value → xw_A → Prop} {px : String → xw_A → Prop} {h : xw_A} {a0 : Nat} {a1 : Nat} {a2 : Nat} {a3 : Nat} {a4 : Nat} {x5 : Int32}  (k : xw G m_Law_law F L bc bs pr px 372 [some (.ref a0), some (.ref a1), some (.ref a2), some (.ref a3), some (.ref a4), some (.int x5), none, none, none] [.ref a3, .ref a1] h) : xw G m_Law_law F L bc bs pr px 370 [some (.ref a0), some (.ref a1), some (.ref a2), some (.ref a3), some (.ref a4), some (.int x5), none, none, none] [] h := by
  refine x_aload_n d_Law_law_370 rfl rfl ?_
  refine x_aload_n d_Law_law_371 rfl rfl ?_
  exact k
theorem s_Law_law_375 {G : xw_G} {F L bc bs : Nat} {pr : Option Value → xw_A → Prop} {px : String → xw_A → Prop} {h : xw_A} {a0 : Nat} {a1 : Nat} {a2 : Nat} {a3 : Nat} {a4 : Nat} {x5 : Int32} {y0 : Int32}  (k : xw G m_Law_law F L bc bs pr px 378 [some (.ref a0), some (.ref a1), some (.ref a2), some (.ref a3), some (.ref a4), some (.int x5), some (.int y0), none, none] [.ref a2] h) : xw G m_Law_law F L bc bs pr px 375 [some (.ref a0), some (.ref a1), some (.ref a2), some (.ref a3), some (.ref a4), some (.int x5), none, none, none] [.int y0] h := by
  refine x_istore d_Law_law_375 (by decide) rfl ?_
  show xw G m_Law_law F L bc bs pr px 377 [some (.ref a0), some (.ref a1), some (.ref a2), some (.ref a3), some (.ref a4), some (.int x5), some (.int y0), none, none] [] h
  refine x_aload_n d_Law_law_377 rfl rfl ?_
  exact k
theorem s_Law_law_381 {G : xw_G} {F L bc bs : Nat} {pr : Option Value → xw_A → Prop} {px : String → xw_A → Prop} {h : xw_A} {a0 : Nat} {a1 : Nat} {a2 : Nat} {a3 : Nat} {a4 : Nat} {x5 : Int32} {y0 : Int32}  (k : xw G m_Law_law F L bc bs pr px 739 [some (.ref a0), some (.ref a1), some (.ref a2), some (.ref a3), some (.ref a4), some (.int x5), none, none, none] [] h) : xw G m_Law_law F L bc bs pr px 381 [some (.ref a0), some (.ref a1), some (.ref a2), some (.ref a3), some (.ref a4), some (.int x5), none, none, none] [.int y0] h := by
  refine x_istore d_Law_law_381 (by decide) trivial ?_
  show xw G m_Law_law F L bc bs pr px 383 [some (.ref a0), some (.ref a1), some (.ref a2), some (.ref a3), some (.ref a4), some (.int x5), none, some (.int y0), none] [] h
  refine x_goto (tgt := 739) d_Law_law_383 (by decide) ?_
  exact x_le (lv' := [some (.ref a0), some (.ref a1), some (.ref a2), some (.ref a3), some (.ref a4), some (.int x5), none, none, none]) (xw_le_s (xw_le_s (xw_le_s (xw_le_s (xw_le_s (xw_le_s (xw_le_n (xw_le_n (xw_le_n xw_le_e))))))))) (k)
theorem s_Law_law_386 {G : xw_G} {F L bc bs : Nat} {pr : Option Value → xw_A → Prop} {px : String → xw_A → Prop} {h : xw_A} {a0 : Nat} {a1 : Nat} {a2 : Nat} {a3 : Nat} {a4 : Nat} {x5 : Int32}  (k : xw G m_Law_law F L bc bs pr px 387 [some (.ref a0), some (.ref a1), some (.ref a2), some (.ref a3), some (.ref a4), some (.int x5), none, none, none] [.ref a1] h) : xw G m_Law_law F L bc bs pr px 386 [some (.ref a0), some (.ref a1), some (.ref a2), some (.ref a3), some (.ref a4), some (.int x5), none, none, none] [] h := by
  refine x_aload_n d_Law_law_386 rfl rfl ?_
  exact k
theorem s_Law_law_390 {G : xw_G} {F L bc bs : Nat} {pr : Option Value → xw_A → Prop} {px : String → xw_A → Prop} {h : xw_A} {a0 : Nat} {a1 : Nat} {a2 : Nat} {a3 : Nat} {a4 : Nat} {x5 : Int32} {y0 : Int32}  (k : xw G m_Law_law F L bc bs pr px 392 [some (.ref a0), some (.ref a1), some (.ref a2), some (.ref a3), some (.ref a4), some (.int x5), none, none, none] [.ref a2] h) : xw G m_Law_law F L bc bs pr px 390 [some (.ref a0), some (.ref a1), some (.ref a2), some (.ref a3), some (.ref a4), some (.int x5), none, none, none] [.int y0] h := by
  refine x_pop d_Law_law_390 rfl ?_
  refine x_aload_n d_Law_law_391 rfl rfl ?_
  exact k
theorem s_Law_law_395 {G : xw_G} {F L bc bs : Nat} {pr : Option Value → xw_A → Prop} {px : String → xw_A → Prop} {h : xw_A} {a0 : Nat} {a1 : Nat} {a2 : Nat} {a3 : Nat} {a4 : Nat} {x5 : Int32} {y0 : Int32}  (k : xw G m_Law_law F L bc bs pr px 739 [some (.ref a0), some (.ref a1), some (.ref a2), some (.ref a3), some (.ref a4), some (.int x5), none, none, none] [] h) : xw G m_Law_law F L bc bs pr px 395 [some (.ref a0), some (.ref a1), some (.ref a2), some (.ref a3), some (.ref a4), some (.int x5), none, none, none] [.int y0] h := by
  refine x_pop d_Law_law_395 rfl ?_
  refine x_goto (tgt := 739) d_Law_law_396 (by decide) ?_
  exact k
theorem s_Law_law_399 {G : xw_G} {F L bc bs : Nat} {pr : Option Value → xw_A → Prop} {px : String → xw_A → Prop} {h : xw_A} {a0 : Nat} {a1 : Nat} {a2 : Nat} {a3 : Nat} {a4 : Nat} {x5 : Int32}  (k : xw G m_Law_law F L bc bs pr px 400 [some (.ref a0), some (.ref a1), some (.ref a2), some (.ref a3), some (.ref a4), some (.int x5), none, none, none] [.ref a1] h) : xw G m_Law_law F L bc bs pr px 399 [some (.ref a0), some (.ref a1), some (.ref a2), some (.ref a3), some (.ref a4), some (.int x5), none, none, none] [] h := by
  refine x_aload_n d_Law_law_399 rfl rfl ?_
  exact k
theorem s_Law_law_403 {G : xw_G} {F L bc bs : Nat} {pr : Option Value → xw_A → Prop} {px : String → xw_A → Prop} {h : xw_A} {a0 : Nat} {a1 : Nat} {a2 : Nat} {a3 : Nat} {a4 : Nat} {x5 : Int32} {y0 : Int32}  (k : xw G m_Law_law F L bc bs pr px 405 [some (.ref a0), some (.ref a1), some (.ref a2), some (.ref a3), some (.ref a4), some (.int x5), none, none, none] [.ref a2] h) : xw G m_Law_law F L bc bs pr px 403 [some (.ref a0), some (.ref a1), some (.ref a2), some (.ref a3), some (.ref a4), some (.int x5), none, none, none] [.int y0] h := by
  refine x_pop d_Law_law_403 rfl ?_
  refine x_aload_n d_Law_law_404 rfl rfl ?_
  exact k
theorem s_Law_law_408 {G : xw_G} {F L bc bs : Nat} {pr : Option Value → xw_A → Prop} {px : String → xw_A → Prop} {h : xw_A} {a0 : Nat} {a1 : Nat} {a2 : Nat} {a3 : Nat} {a4 : Nat} {x5 : Int32} {y0 : Int32}  (k : xw G m_Law_law F L bc bs pr px 739 [some (.ref a0), some (.ref a1), some (.ref a2), some (.ref a3), some (.ref a4), some (.int x5), none, none, none] [] h) : xw G m_Law_law F L bc bs pr px 408 [some (.ref a0), some (.ref a1), some (.ref a2), some (.ref a3), some (.ref a4), some (.int x5), none, none, none] [.int y0] h := by
  refine x_pop d_Law_law_408 rfl ?_
  refine x_goto (tgt := 739) d_Law_law_409 (by decide) ?_
  exact k
theorem s_Law_law_412 {G : xw_G} {F L bc bs : Nat} {pr : Option Value → xw_A → Prop} {px : String → xw_A → Prop} {h : xw_A} {a0 : Nat} {a1 : Nat} {a2 : Nat} {a3 : Nat} {a4 : Nat} {x5 : Int32} {N : Nat} {xs : Nat → Int32} (hX : va_X a0 N xs G.2.2.1 G.2.2.1.heap) (i_418 : vp_in (x5 + 1) N) (i_424 : vp_in (x5 + 2) N) (k : xw G m_Law_law F L bc bs pr px 425 [some (.ref a0), some (.ref a1), some (.ref a2), some (.ref a3), some (.ref a4), some (.int x5), none, none, none] [.int (xs (x5 + 2).toNatClampNeg), .int (xs (x5 + 1).toNatClampNeg), .ref a1] h) : xw G m_Law_law F L bc bs pr px 412 [some (.ref a0), some (.ref a1), some (.ref a2), some (.ref a3), some (.ref a4), some (.int x5), none, none, none] [] h := by
  refine x_aload_n d_Law_law_412 rfl rfl ?_
  refine x_aload_n d_Law_law_413 rfl rfl ?_
  refine x_iload d_Law_law_414 rfl ?_
  refine x_iconst (v := 1) d_Law_law_416 (by decide) ?_
  refine x_iadd d_Law_law_417 ?_
  refine x_sld hX d_Law_law_418 i_418 ?_
  refine x_aload_n d_Law_law_419 rfl rfl ?_
  refine x_iload d_Law_law_420 rfl ?_
  refine x_iconst (v := 2) d_Law_law_422 (by decide) ?_
  refine x_iadd d_Law_law_423 ?_
  refine x_sld hX d_Law_law_424 i_424 ?_
  exact k
theorem s_Law_law_428 {G : xw_G} {F L bc bs : Nat} {pr : Option Value → xw_A → Prop} {px : String → xw_A → Prop} {h : xw_A} {a0 : Nat} {a1 : Nat} {a2 : Nat} {a3 : Nat} {a4 : Nat} {x5 : Int32} {y0 : Int32} {N : Nat} {xs : Nat → Int32} (hX : va_X a0 N xs G.2.2.1 G.2.2.1.heap) (i_436 : vp_in (x5 + 1) N) (i_442 : vp_in (x5 + 2) N) (k : xw G m_Law_law F L bc bs pr px 443 [some (.ref a0), some (.ref a1), some (.ref a2), some (.ref a3), some (.ref a4), some (.int x5), some (.int y0), none, none] [.int (xs (x5 + 2).toNatClampNeg), .int (xs (x5 + 1).toNatClampNeg), .ref a2] h) : xw G m_Law_law F L bc bs pr px 428 [some (.ref a0), some (.ref a1), some (.ref a2), some (.ref a3), some (.ref a4), some (.int x5), none, none, none] [.int y0] h := by
  refine x_istore d_Law_law_428 (by decide) rfl ?_
  show xw G m_Law_law F L bc bs pr px 430 [some (.ref a0), some (.ref a1), some (.ref a2), some (.ref a3), some (.ref a4), some (.int x5), some (.int y0), none, none] [] h
  refine x_aload_n d_Law_law_430 rfl rfl ?_
  refine x_aload_n d_Law_law_431 rfl rfl ?_
  refine x_iload d_Law_law_432 rfl ?_
  refine x_iconst (v := 1) d_Law_law_434 (by decide) ?_
  refine x_iadd d_Law_law_435 ?_
  refine x_sld hX d_Law_law_436 i_436 ?_
  refine x_aload_n d_Law_law_437 rfl rfl ?_
  refine x_iload d_Law_law_438 rfl ?_
  refine x_iconst (v := 2) d_Law_law_440 (by decide) ?_
  refine x_iadd d_Law_law_441 ?_
  refine x_sld hX d_Law_law_442 i_442 ?_
  exact k
theorem s_Law_law_446 {G : xw_G} {F L bc bs : Nat} {pr : Option Value → xw_A → Prop} {px : String → xw_A → Prop} {h : xw_A} {a0 : Nat} {a1 : Nat} {a2 : Nat} {a3 : Nat} {a4 : Nat} {x5 : Int32}  (k : xw G m_Law_law F L bc bs pr px 739 [some (.ref a0), some (.ref a1), some (.ref a2), some (.ref a3), some (.ref a4), some (.int x5), none, none, none] [] h) : xw G m_Law_law F L bc bs pr px 446 [some (.ref a0), some (.ref a1), some (.ref a2), some (.ref a3), some (.ref a4), some (.int x5), none, none, none] [] h := by
  refine x_goto (tgt := 739) d_Law_law_446 (by decide) ?_
  exact k
theorem s_Law_law_449 {G : xw_G} {F L bc bs : Nat} {pr : Option Value → xw_A → Prop} {px : String → xw_A → Prop} {h : xw_A} {a0 : Nat} {a1 : Nat} {a2 : Nat} {a3 : Nat} {a4 : Nat} {x5 : Int32} {N : Nat} {xs : Nat → Int32} (hX : va_X a0 N xs G.2.2.1 G.2.2.1.heap) (i_455 : vp_in (x5 + 1) N) (i_461 : vp_in (x5 + 2) N) (k : xw G m_Law_law F L bc bs pr px 463 [some (.ref a0), some (.ref a1), some (.ref a2), some (.ref a3), some (.ref a4), some (.int x5), none, none, none] [.ref a3, .int (xs (x5 + 2).toNatClampNeg), .int (xs (x5 + 1).toNatClampNeg), .ref a1] h) : xw G m_Law_law F L bc bs pr px 449 [some (.ref a0), some (.ref a1), some (.ref a2), some (.ref a3), some (.ref a4), some (.int x5), none, none, none] [] h := by
  refine x_aload_n d_Law_law_449 rfl rfl ?_
  refine x_aload_n d_Law_law_450 rfl rfl ?_
  refine x_iload d_Law_law_451 rfl ?_
  refine x_iconst (v := 1) d_Law_law_453 (by decide) ?_
  refine x_iadd d_Law_law_454 ?_
  refine x_sld hX d_Law_law_455 i_455 ?_
  refine x_aload_n d_Law_law_456 rfl rfl ?_
  refine x_iload d_Law_law_457 rfl ?_
  refine x_iconst (v := 2) d_Law_law_459 (by decide) ?_
  refine x_iadd d_Law_law_460 ?_
  refine x_sld hX d_Law_law_461 i_461 ?_
  refine x_aload_n d_Law_law_462 rfl rfl ?_
  exact k
theorem s_Law_law_466 {G : xw_G} {F L bc bs : Nat} {pr : Option Value → xw_A → Prop} {px : String → xw_A → Prop} {h : xw_A} {a0 : Nat} {a1 : Nat} {a2 : Nat} {a3 : Nat} {a4 : Nat} {x5 : Int32} {y0 : Int32} {N : Nat} {xs : Nat → Int32} (hX : va_X a0 N xs G.2.2.1 G.2.2.1.heap) (i_474 : vp_in (x5 + 1) N) (i_480 : vp_in (x5 + 2) N) (k : xw G m_Law_law F L bc bs pr px 481 [some (.ref a0), some (.ref a1), some (.ref a2), some (.ref a3), some (.ref a4), some (.int x5), some (.int y0), none, none] [.int (xs (x5 + 2).toNatClampNeg), .int (xs (x5 + 1).toNatClampNeg), .ref a2] h) : xw G m_Law_law F L bc bs pr px 466 [some (.ref a0), some (.ref a1), some (.ref a2), some (.ref a3), some (.ref a4), some (.int x5), none, none, none] [.int y0] h := by
  refine x_istore d_Law_law_466 (by decide) rfl ?_
  show xw G m_Law_law F L bc bs pr px 468 [some (.ref a0), some (.ref a1), some (.ref a2), some (.ref a3), some (.ref a4), some (.int x5), some (.int y0), none, none] [] h
  refine x_aload_n d_Law_law_468 rfl rfl ?_
  refine x_aload_n d_Law_law_469 rfl rfl ?_
  refine x_iload d_Law_law_470 rfl ?_
  refine x_iconst (v := 1) d_Law_law_472 (by decide) ?_
  refine x_iadd d_Law_law_473 ?_
  refine x_sld hX d_Law_law_474 i_474 ?_
  refine x_aload_n d_Law_law_475 rfl rfl ?_
  refine x_iload d_Law_law_476 rfl ?_
  refine x_iconst (v := 2) d_Law_law_478 (by decide) ?_
  refine x_iadd d_Law_law_479 ?_
  refine x_sld hX d_Law_law_480 i_480 ?_
  exact k
theorem s_Law_law_484 {G : xw_G} {F L bc bs : Nat} {pr : Option Value → xw_A → Prop} {px : String → xw_A → Prop} {h : xw_A} {a0 : Nat} {a1 : Nat} {a2 : Nat} {a3 : Nat} {a4 : Nat} {x5 : Int32} {y0 : Int32}  (k : xw G m_Law_law F L bc bs pr px 739 [some (.ref a0), some (.ref a1), some (.ref a2), some (.ref a3), some (.ref a4), some (.int x5), none, none, none] [] h) : xw G m_Law_law F L bc bs pr px 484 [some (.ref a0), some (.ref a1), some (.ref a2), some (.ref a3), some (.ref a4), some (.int x5), none, none, none] [.int y0] h := by
  refine x_istore d_Law_law_484 (by decide) trivial ?_
  show xw G m_Law_law F L bc bs pr px 486 [some (.ref a0), some (.ref a1), some (.ref a2), some (.ref a3), some (.ref a4), some (.int x5), none, some (.int y0), none] [] h
  refine x_goto (tgt := 739) d_Law_law_486 (by decide) ?_
  exact x_le (lv' := [some (.ref a0), some (.ref a1), some (.ref a2), some (.ref a3), some (.ref a4), some (.int x5), none, none, none]) (xw_le_s (xw_le_s (xw_le_s (xw_le_s (xw_le_s (xw_le_s (xw_le_n (xw_le_n (xw_le_n xw_le_e))))))))) (k)
theorem s_Law_law_489 {G : xw_G} {F L bc bs : Nat} {pr : Option Value → xw_A → Prop} {px : String → xw_A → Prop} {h : xw_A} {a0 : Nat} {a1 : Nat} {a2 : Nat} {a3 : Nat} {a4 : Nat} {x5 : Int32}  (k : xw G m_Law_law F L bc bs pr px 491 [some (.ref a0), some (.ref a1), some (.ref a2), some (.ref a3), some (.ref a4), some (.int x5), none, none, none] [.ref a3, .ref a1] h) : xw G m_Law_law F L bc bs pr px 489 [some (.ref a0), some (.ref a1), some (.ref a2), some (.ref a3), some (.ref a4), some (.int x5), none, none, none] [] h := by
  refine x_aload_n d_Law_law_489 rfl rfl ?_
  refine x_aload_n d_Law_law_490 rfl rfl ?_
  exact k
theorem s_Law_law_494 {G : xw_G} {F L bc bs : Nat} {pr : Option Value → xw_A → Prop} {px : String → xw_A → Prop} {h : xw_A} {a0 : Nat} {a1 : Nat} {a2 : Nat} {a3 : Nat} {a4 : Nat} {x5 : Int32} {y0 : Int32}  (k : xw G m_Law_law F L bc bs pr px 497 [some (.ref a0), some (.ref a1), some (.ref a2), some (.ref a3), some (.ref a4), some (.int x5), some (.int y0), none, none] [.ref a2] h) : xw G m_Law_law F L bc bs pr px 494 [some (.ref a0), some (.ref a1), some (.ref a2), some (.ref a3), some (.ref a4), some (.int x5), none, none, none] [.int y0] h := by
  refine x_istore d_Law_law_494 (by decide) rfl ?_
  show xw G m_Law_law F L bc bs pr px 496 [some (.ref a0), some (.ref a1), some (.ref a2), some (.ref a3), some (.ref a4), some (.int x5), some (.int y0), none, none] [] h
  refine x_aload_n d_Law_law_496 rfl rfl ?_
  exact k
theorem s_Law_law_500 {G : xw_G} {F L bc bs : Nat} {pr : Option Value → xw_A → Prop} {px : String → xw_A → Prop} {h : xw_A} {a0 : Nat} {a1 : Nat} {a2 : Nat} {a3 : Nat} {a4 : Nat} {x5 : Int32} {y0 : Int32}  (k : xw G m_Law_law F L bc bs pr px 739 [some (.ref a0), some (.ref a1), some (.ref a2), some (.ref a3), some (.ref a4), some (.int x5), none, none, none] [] h) : xw G m_Law_law F L bc bs pr px 500 [some (.ref a0), some (.ref a1), some (.ref a2), some (.ref a3), some (.ref a4), some (.int x5), none, none, none] [.int y0] h := by
  refine x_istore d_Law_law_500 (by decide) trivial ?_
  show xw G m_Law_law F L bc bs pr px 502 [some (.ref a0), some (.ref a1), some (.ref a2), some (.ref a3), some (.ref a4), some (.int x5), none, some (.int y0), none] [] h
  refine x_goto (tgt := 739) d_Law_law_502 (by decide) ?_
  exact x_le (lv' := [some (.ref a0), some (.ref a1), some (.ref a2), some (.ref a3), some (.ref a4), some (.int x5), none, none, none]) (xw_le_s (xw_le_s (xw_le_s (xw_le_s (xw_le_s (xw_le_s (xw_le_n (xw_le_n (xw_le_n xw_le_e))))))))) (k)
theorem s_Law_law_505 {G : xw_G} {F L bc bs : Nat} {pr : Option Value → xw_A → Prop} {px : String → xw_A → Prop} {h : xw_A} {a0 : Nat} {a1 : Nat} {a2 : Nat} {a3 : Nat} {a4 : Nat} {x5 : Int32}  (k : xw G m_Law_law F L bc bs pr px 506 [some (.ref a0), some (.ref a1), some (.ref a2), some (.ref a3), some (.ref a4), some (.int x5), none, none, none] [.ref a1] h) : xw G m_Law_law F L bc bs pr px 505 [some (.ref a0), some (.ref a1), some (.ref a2), some (.ref a3), some (.ref a4), some (.int x5), none, none, none] [] h := by
  refine x_aload_n d_Law_law_505 rfl rfl ?_
  exact k
theorem s_Law_law_509 {G : xw_G} {F L bc bs : Nat} {pr : Option Value → xw_A → Prop} {px : String → xw_A → Prop} {h : xw_A} {a0 : Nat} {a1 : Nat} {a2 : Nat} {a3 : Nat} {a4 : Nat} {x5 : Int32} {y0 : Int32}  (k : xw G m_Law_law F L bc bs pr px 511 [some (.ref a0), some (.ref a1), some (.ref a2), some (.ref a3), some (.ref a4), some (.int x5), none, none, none] [.ref a2] h) : xw G m_Law_law F L bc bs pr px 509 [some (.ref a0), some (.ref a1), some (.ref a2), some (.ref a3), some (.ref a4), some (.int x5), none, none, none] [.int y0] h := by
  refine x_pop d_Law_law_509 rfl ?_
  refine x_aload_n d_Law_law_510 rfl rfl ?_
  exact k
theorem s_Law_law_514 {G : xw_G} {F L bc bs : Nat} {pr : Option Value → xw_A → Prop} {px : String → xw_A → Prop} {h : xw_A} {a0 : Nat} {a1 : Nat} {a2 : Nat} {a3 : Nat} {a4 : Nat} {x5 : Int32} {y0 : Int32}  (k : xw G m_Law_law F L bc bs pr px 739 [some (.ref a0), some (.ref a1), some (.ref a2), some (.ref a3), some (.ref a4), some (.int x5), none, none, none] [] h) : xw G m_Law_law F L bc bs pr px 514 [some (.ref a0), some (.ref a1), some (.ref a2), some (.ref a3), some (.ref a4), some (.int x5), none, none, none] [.int y0] h := by
  refine x_pop d_Law_law_514 rfl ?_
  refine x_goto (tgt := 739) d_Law_law_515 (by decide) ?_
  exact k
theorem s_Law_law_518 {G : xw_G} {F L bc bs : Nat} {pr : Option Value → xw_A → Prop} {px : String → xw_A → Prop} {h : xw_A} {a0 : Nat} {a1 : Nat} {a2 : Nat} {a3 : Nat} {a4 : Nat} {x5 : Int32} {N : Nat} {xs : Nat → Int32} (hX : va_X a0 N xs G.2.2.1 G.2.2.1.heap) (i_524 : vp_in (x5 + 1) N) (i_530 : vp_in (x5 + 2) N) (kt : (xs (x5 + 2).toNatClampNeg) = 0 → xw G m_Law_law F L bc bs pr px 538 [some (.ref a0), some (.ref a1), some (.ref a2), some (.ref a3), some (.ref a4), some (.int x5), none, none, none] [.int (xs (x5 + 1).toNatClampNeg), .ref a1] h) (kf : ¬ (xs (x5 + 2).toNatClampNeg) = 0 → xw G m_Law_law F L bc bs pr px 534 [some (.ref a0), some (.ref a1), some (.ref a2), some (.ref a3), some (.ref a4), some (.int x5), none, none, none] [.int (xs (x5 + 1).toNatClampNeg), .ref a1] h) : xw G m_Law_law F L bc bs pr px 518 [some (.ref a0), some (.ref a1), some (.ref a2), some (.ref a3), some (.ref a4), some (.int x5), none, none, none] [] h := by
  refine x_aload_n d_Law_law_518 rfl rfl ?_
  refine x_aload_n d_Law_law_519 rfl rfl ?_
  refine x_iload d_Law_law_520 rfl ?_
  refine x_iconst (v := 1) d_Law_law_522 (by decide) ?_
  refine x_iadd d_Law_law_523 ?_
  refine x_sld hX d_Law_law_524 i_524 ?_
  refine x_aload_n d_Law_law_525 rfl rfl ?_
  refine x_iload d_Law_law_526 rfl ?_
  refine x_iconst (v := 2) d_Law_law_528 (by decide) ?_
  refine x_iadd d_Law_law_529 ?_
  refine x_sld hX d_Law_law_530 i_530 ?_
  refine x_if_eq (tgt := 538) d_Law_law_531 (by decide) (fun hc => ?_) (fun hc => ?_)
  · exact kt hc
  · exact kf hc
theorem s_Law_law_534 {G : xw_G} {F L bc bs : Nat} {pr : Option Value → xw_A → Prop} {px : String → xw_A → Prop} {h : xw_A} {a0 : Nat} {a1 : Nat} {a2 : Nat} {a3 : Nat} {a4 : Nat} {x5 : Int32} {y0 : Int32}  (k : xw G m_Law_law F L bc bs pr px 539 [some (.ref a0), some (.ref a1), some (.ref a2), some (.ref a3), some (.ref a4), some (.int x5), none, none, none] [.int 1, .int y0, .ref a1] h) : xw G m_Law_law F L bc bs pr px 534 [some (.ref a0), some (.ref a1), some (.ref a2), some (.ref a3), some (.ref a4), some (.int x5), none, none, none] [.int y0, .ref a1] h := by
  refine x_iconst (v := 1) d_Law_law_534 (by decide) ?_
  refine x_goto (tgt := 539) d_Law_law_535 (by decide) ?_
  exact k
theorem s_Law_law_538 {G : xw_G} {F L bc bs : Nat} {pr : Option Value → xw_A → Prop} {px : String → xw_A → Prop} {h : xw_A} {a0 : Nat} {a1 : Nat} {a2 : Nat} {a3 : Nat} {a4 : Nat} {x5 : Int32} {y0 : Int32}  (k : xw G m_Law_law F L bc bs pr px 539 [some (.ref a0), some (.ref a1), some (.ref a2), some (.ref a3), some (.ref a4), some (.int x5), none, none, none] [.int 0, .int y0, .ref a1] h) : xw G m_Law_law F L bc bs pr px 538 [some (.ref a0), some (.ref a1), some (.ref a2), some (.ref a3), some (.ref a4), some (.int x5), none, none, none] [.int y0, .ref a1] h := by
  refine x_iconst (v := 0) d_Law_law_538 (by decide) ?_
  exact k
theorem s_Law_law_539 {G : xw_G} {F L bc bs : Nat} {pr : Option Value → xw_A → Prop} {px : String → xw_A → Prop} {h : xw_A} {a0 : Nat} {a1 : Nat} {a2 : Nat} {a3 : Nat} {a4 : Nat} {x5 : Int32} {y0 : Int32} {y1 : Int32}  (k : xw G m_Law_law F L bc bs pr px 540 [some (.ref a0), some (.ref a1), some (.ref a2), some (.ref a3), some (.ref a4), some (.int x5), none, none, none] [.ref a3, .int y0, .int y1, .ref a1] h) : xw G m_Law_law F L bc bs pr px 539 [some (.ref a0), some (.ref a1), some (.ref a2), some (.ref a3), some (.ref a4), some (.int x5), none, none, none] [.int y0, .int y1, .ref a1] h := by
  refine x_aload_n d_Law_law_539 rfl rfl ?_
  exact k
theorem s_Law_law_543 {G : xw_G} {F L bc bs : Nat} {pr : Option Value → xw_A → Prop} {px : String → xw_A → Prop} {h : xw_A} {a0 : Nat} {a1 : Nat} {a2 : Nat} {a3 : Nat} {a4 : Nat} {x5 : Int32} {y0 : Int32} {N : Nat} {xs : Nat → Int32} (hX : va_X a0 N xs G.2.2.1 G.2.2.1.heap) (i_551 : vp_in (x5 + 1) N) (i_557 : vp_in (x5 + 2) N) (kt : (xs (x5 + 2).toNatClampNeg) = 0 → xw G m_Law_law F L bc bs pr px 565 [some (.ref a0), some (.ref a1), some (.ref a2), some (.ref a3), some (.ref a4), some (.int x5), none, none, none] [.int (xs (x5 + 1).toNatClampNeg), .ref a2] h) (kf : ¬ (xs (x5 + 2).toNatClampNeg) = 0 → xw G m_Law_law F L bc bs pr px 561 [some (.ref a0), some (.ref a1), some (.ref a2), some (.ref a3), some (.ref a4), some (.int x5), none, none, none] [.int (xs (x5 + 1).toNatClampNeg), .ref a2] h) : xw G m_Law_law F L bc bs pr px 543 [some (.ref a0), some (.ref a1), some (.ref a2), some (.ref a3), some (.ref a4), some (.int x5), none, none, none] [.int y0] h := by
  refine x_istore d_Law_law_543 (by decide) rfl ?_
  show xw G m_Law_law F L bc bs pr px 545 [some (.ref a0), some (.ref a1), some (.ref a2), some (.ref a3), some (.ref a4), some (.int x5), some (.int y0), none, none] [] h
  refine x_aload_n d_Law_law_545 rfl rfl ?_
  refine x_aload_n d_Law_law_546 rfl rfl ?_
  refine x_iload d_Law_law_547 rfl ?_
  refine x_iconst (v := 1) d_Law_law_549 (by decide) ?_
  refine x_iadd d_Law_law_550 ?_
  refine x_sld hX d_Law_law_551 i_551 ?_
  refine x_aload_n d_Law_law_552 rfl rfl ?_
  refine x_iload d_Law_law_553 rfl ?_
  refine x_iconst (v := 2) d_Law_law_555 (by decide) ?_
  refine x_iadd d_Law_law_556 ?_
  refine x_sld hX d_Law_law_557 i_557 ?_
  refine x_if_eq (tgt := 565) d_Law_law_558 (by decide) (fun hc => ?_) (fun hc => ?_)
  · exact x_le (lv' := [some (.ref a0), some (.ref a1), some (.ref a2), some (.ref a3), some (.ref a4), some (.int x5), none, none, none]) (xw_le_s (xw_le_s (xw_le_s (xw_le_s (xw_le_s (xw_le_s (xw_le_n (xw_le_n (xw_le_n xw_le_e))))))))) (kt hc)
  · exact x_le (lv' := [some (.ref a0), some (.ref a1), some (.ref a2), some (.ref a3), some (.ref a4), some (.int x5), none, none, none]) (xw_le_s (xw_le_s (xw_le_s (xw_le_s (xw_le_s (xw_le_s (xw_le_n (xw_le_n (xw_le_n xw_le_e))))))))) (kf hc)
theorem s_Law_law_561 {G : xw_G} {F L bc bs : Nat} {pr : Option Value → xw_A → Prop} {px : String → xw_A → Prop} {h : xw_A} {a0 : Nat} {a1 : Nat} {a2 : Nat} {a3 : Nat} {a4 : Nat} {x5 : Int32} {y0 : Int32}  (k : xw G m_Law_law F L bc bs pr px 566 [some (.ref a0), some (.ref a1), some (.ref a2), some (.ref a3), some (.ref a4), some (.int x5), none, none, none] [.int 1, .int y0, .ref a2] h) : xw G m_Law_law F L bc bs pr px 561 [some (.ref a0), some (.ref a1), some (.ref a2), some (.ref a3), some (.ref a4), some (.int x5), none, none, none] [.int y0, .ref a2] h := by
  refine x_iconst (v := 1) d_Law_law_561 (by decide) ?_
  refine x_goto (tgt := 566) d_Law_law_562 (by decide) ?_
  exact k
theorem s_Law_law_565 {G : xw_G} {F L bc bs : Nat} {pr : Option Value → xw_A → Prop} {px : String → xw_A → Prop} {h : xw_A} {a0 : Nat} {a1 : Nat} {a2 : Nat} {a3 : Nat} {a4 : Nat} {x5 : Int32} {y0 : Int32}  (k : xw G m_Law_law F L bc bs pr px 566 [some (.ref a0), some (.ref a1), some (.ref a2), some (.ref a3), some (.ref a4), some (.int x5), none, none, none] [.int 0, .int y0, .ref a2] h) : xw G m_Law_law F L bc bs pr px 565 [some (.ref a0), some (.ref a1), some (.ref a2), some (.ref a3), some (.ref a4), some (.int x5), none, none, none] [.int y0, .ref a2] h := by
  refine x_iconst (v := 0) d_Law_law_565 (by decide) ?_
  exact k
theorem s_Law_law_569 {G : xw_G} {F L bc bs : Nat} {pr : Option Value → xw_A → Prop} {px : String → xw_A → Prop} {h : xw_A} {a0 : Nat} {a1 : Nat} {a2 : Nat} {a3 : Nat} {a4 : Nat} {x5 : Int32} {y0 : Int32}  (k : xw G m_Law_law F L bc bs pr px 739 [some (.ref a0), some (.ref a1), some (.ref a2), some (.ref a3), some (.ref a4), some (.int x5), none, none, none] [] h) : xw G m_Law_law F L bc bs pr px 569 [some (.ref a0), some (.ref a1), some (.ref a2), some (.ref a3), some (.ref a4), some (.int x5), none, none, none] [.int y0] h := by
  refine x_istore d_Law_law_569 (by decide) trivial ?_
  show xw G m_Law_law F L bc bs pr px 571 [some (.ref a0), some (.ref a1), some (.ref a2), some (.ref a3), some (.ref a4), some (.int x5), none, some (.int y0), none] [] h
  refine x_goto (tgt := 739) d_Law_law_571 (by decide) ?_
  exact x_le (lv' := [some (.ref a0), some (.ref a1), some (.ref a2), some (.ref a3), some (.ref a4), some (.int x5), none, none, none]) (xw_le_s (xw_le_s (xw_le_s (xw_le_s (xw_le_s (xw_le_s (xw_le_n (xw_le_n (xw_le_n xw_le_e))))))))) (k)
theorem s_Law_law_574 {G : xw_G} {F L bc bs : Nat} {pr : Option Value → xw_A → Prop} {px : String → xw_A → Prop} {h : xw_A} {a0 : Nat} {a1 : Nat} {a2 : Nat} {a3 : Nat} {a4 : Nat} {x5 : Int32} {N : Nat} {xs : Nat → Int32} (hX : va_X a0 N xs G.2.2.1 G.2.2.1.heap) (i_580 : vp_in (x5 + 1) N) (i_586 : vp_in (x5 + 2) N) (kt : (xs (x5 + 2).toNatClampNeg) = 0 → xw G m_Law_law F L bc bs pr px 594 [some (.ref a0), some (.ref a1), some (.ref a2), some (.ref a3), some (.ref a4), some (.int x5), none, none, none] [.int (xs (x5 + 1).toNatClampNeg), .ref a1] h) (kf : ¬ (xs (x5 + 2).toNatClampNeg) = 0 → xw G m_Law_law F L bc bs pr px 590 [some (.ref a0), some (.ref a1), some (.ref a2), some (.ref a3), some (.ref a4), some (.int x5), none, none, none] [.int (xs (x5 + 1).toNatClampNeg), .ref a1] h) : xw G m_Law_law F L bc bs pr px 574 [some (.ref a0), some (.ref a1), some (.ref a2), some (.ref a3), some (.ref a4), some (.int x5), none, none, none] [] h := by
  refine x_aload_n d_Law_law_574 rfl rfl ?_
  refine x_aload_n d_Law_law_575 rfl rfl ?_
  refine x_iload d_Law_law_576 rfl ?_
  refine x_iconst (v := 1) d_Law_law_578 (by decide) ?_
  refine x_iadd d_Law_law_579 ?_
  refine x_sld hX d_Law_law_580 i_580 ?_
  refine x_aload_n d_Law_law_581 rfl rfl ?_
  refine x_iload d_Law_law_582 rfl ?_
  refine x_iconst (v := 2) d_Law_law_584 (by decide) ?_
  refine x_iadd d_Law_law_585 ?_
  refine x_sld hX d_Law_law_586 i_586 ?_
  refine x_if_eq (tgt := 594) d_Law_law_587 (by decide) (fun hc => ?_) (fun hc => ?_)
  · exact kt hc
  · exact kf hc
theorem s_Law_law_590 {G : xw_G} {F L bc bs : Nat} {pr : Option Value → xw_A → Prop} {px : String → xw_A → Prop} {h : xw_A} {a0 : Nat} {a1 : Nat} {a2 : Nat} {a3 : Nat} {a4 : Nat} {x5 : Int32} {y0 : Int32}  (k : xw G m_Law_law F L bc bs pr px 595 [some (.ref a0), some (.ref a1), some (.ref a2), some (.ref a3), some (.ref a4), some (.int x5), none, none, none] [.int 1, .int y0, .ref a1] h) : xw G m_Law_law F L bc bs pr px 590 [some (.ref a0), some (.ref a1), some (.ref a2), some (.ref a3), some (.ref a4), some (.int x5), none, none, none] [.int y0, .ref a1] h := by
  refine x_iconst (v := 1) d_Law_law_590 (by decide) ?_
  refine x_goto (tgt := 595) d_Law_law_591 (by decide) ?_
  exact k
theorem s_Law_law_594 {G : xw_G} {F L bc bs : Nat} {pr : Option Value → xw_A → Prop} {px : String → xw_A → Prop} {h : xw_A} {a0 : Nat} {a1 : Nat} {a2 : Nat} {a3 : Nat} {a4 : Nat} {x5 : Int32} {y0 : Int32}  (k : xw G m_Law_law F L bc bs pr px 595 [some (.ref a0), some (.ref a1), some (.ref a2), some (.ref a3), some (.ref a4), some (.int x5), none, none, none] [.int 0, .int y0, .ref a1] h) : xw G m_Law_law F L bc bs pr px 594 [some (.ref a0), some (.ref a1), some (.ref a2), some (.ref a3), some (.ref a4), some (.int x5), none, none, none] [.int y0, .ref a1] h := by
  refine x_iconst (v := 0) d_Law_law_594 (by decide) ?_
  exact k
theorem s_Law_law_595 {G : xw_G} {F L bc bs : Nat} {pr : Option Value → xw_A → Prop} {px : String → xw_A → Prop} {h : xw_A} {a0 : Nat} {a1 : Nat} {a2 : Nat} {a3 : Nat} {a4 : Nat} {x5 : Int32} {y0 : Int32} {y1 : Int32}  (k : xw G m_Law_law F L bc bs pr px 597 [some (.ref a0), some (.ref a1), some (.ref a2), some (.ref a3), some (.ref a4), some (.int x5), none, none, none] [.ref a4, .int y0, .int y1, .ref a1] h) : xw G m_Law_law F L bc bs pr px 595 [some (.ref a0), some (.ref a1), some (.ref a2), some (.ref a3), some (.ref a4), some (.int x5), none, none, none] [.int y0, .int y1, .ref a1] h := by
  refine x_aload d_Law_law_595 rfl ?_
  exact k
theorem s_Law_law_600 {G : xw_G} {F L bc bs : Nat} {pr : Option Value → xw_A → Prop} {px : String → xw_A → Prop} {h : xw_A} {a0 : Nat} {a1 : Nat} {a2 : Nat} {a3 : Nat} {a4 : Nat} {x5 : Int32} {y0 : Int32} {N : Nat} {xs : Nat → Int32} (hX : va_X a0 N xs G.2.2.1 G.2.2.1.heap) (i_608 : vp_in (x5 + 1) N) (i_614 : vp_in (x5 + 2) N) (kt : (xs (x5 + 2).toNatClampNeg) = 0 → xw G m_Law_law F L bc bs pr px 622 [some (.ref a0), some (.ref a1), some (.ref a2), some (.ref a3), some (.ref a4), some (.int x5), none, none, none] [.int (xs (x5 + 1).toNatClampNeg), .ref a2] h) (kf : ¬ (xs (x5 + 2).toNatClampNeg) = 0 → xw G m_Law_law F L bc bs pr px 618 [some (.ref a0), some (.ref a1), some (.ref a2), some (.ref a3), some (.ref a4), some (.int x5), none, none, none] [.int (xs (x5 + 1).toNatClampNeg), .ref a2] h) : xw G m_Law_law F L bc bs pr px 600 [some (.ref a0), some (.ref a1), some (.ref a2), some (.ref a3), some (.ref a4), some (.int x5), none, none, none] [.int y0] h := by
  refine x_istore d_Law_law_600 (by decide) rfl ?_
  show xw G m_Law_law F L bc bs pr px 602 [some (.ref a0), some (.ref a1), some (.ref a2), some (.ref a3), some (.ref a4), some (.int x5), some (.int y0), none, none] [] h
  refine x_aload_n d_Law_law_602 rfl rfl ?_
  refine x_aload_n d_Law_law_603 rfl rfl ?_
  refine x_iload d_Law_law_604 rfl ?_
  refine x_iconst (v := 1) d_Law_law_606 (by decide) ?_
  refine x_iadd d_Law_law_607 ?_
  refine x_sld hX d_Law_law_608 i_608 ?_
  refine x_aload_n d_Law_law_609 rfl rfl ?_
  refine x_iload d_Law_law_610 rfl ?_
  refine x_iconst (v := 2) d_Law_law_612 (by decide) ?_
  refine x_iadd d_Law_law_613 ?_
  refine x_sld hX d_Law_law_614 i_614 ?_
  refine x_if_eq (tgt := 622) d_Law_law_615 (by decide) (fun hc => ?_) (fun hc => ?_)
  · exact x_le (lv' := [some (.ref a0), some (.ref a1), some (.ref a2), some (.ref a3), some (.ref a4), some (.int x5), none, none, none]) (xw_le_s (xw_le_s (xw_le_s (xw_le_s (xw_le_s (xw_le_s (xw_le_n (xw_le_n (xw_le_n xw_le_e))))))))) (kt hc)
  · exact x_le (lv' := [some (.ref a0), some (.ref a1), some (.ref a2), some (.ref a3), some (.ref a4), some (.int x5), none, none, none]) (xw_le_s (xw_le_s (xw_le_s (xw_le_s (xw_le_s (xw_le_s (xw_le_n (xw_le_n (xw_le_n xw_le_e))))))))) (kf hc)
theorem s_Law_law_618 {G : xw_G} {F L bc bs : Nat} {pr : Option Value → xw_A → Prop} {px : String → xw_A → Prop} {h : xw_A} {a0 : Nat} {a1 : Nat} {a2 : Nat} {a3 : Nat} {a4 : Nat} {x5 : Int32} {y0 : Int32}  (k : xw G m_Law_law F L bc bs pr px 623 [some (.ref a0), some (.ref a1), some (.ref a2), some (.ref a3), some (.ref a4), some (.int x5), none, none, none] [.int 1, .int y0, .ref a2] h) : xw G m_Law_law F L bc bs pr px 618 [some (.ref a0), some (.ref a1), some (.ref a2), some (.ref a3), some (.ref a4), some (.int x5), none, none, none] [.int y0, .ref a2] h := by
  refine x_iconst (v := 1) d_Law_law_618 (by decide) ?_
  refine x_goto (tgt := 623) d_Law_law_619 (by decide) ?_
  exact k
theorem s_Law_law_622 {G : xw_G} {F L bc bs : Nat} {pr : Option Value → xw_A → Prop} {px : String → xw_A → Prop} {h : xw_A} {a0 : Nat} {a1 : Nat} {a2 : Nat} {a3 : Nat} {a4 : Nat} {x5 : Int32} {y0 : Int32}  (k : xw G m_Law_law F L bc bs pr px 623 [some (.ref a0), some (.ref a1), some (.ref a2), some (.ref a3), some (.ref a4), some (.int x5), none, none, none] [.int 0, .int y0, .ref a2] h) : xw G m_Law_law F L bc bs pr px 622 [some (.ref a0), some (.ref a1), some (.ref a2), some (.ref a3), some (.ref a4), some (.int x5), none, none, none] [.int y0, .ref a2] h := by
  refine x_iconst (v := 0) d_Law_law_622 (by decide) ?_
  exact k
theorem s_Law_law_626 {G : xw_G} {F L bc bs : Nat} {pr : Option Value → xw_A → Prop} {px : String → xw_A → Prop} {h : xw_A} {a0 : Nat} {a1 : Nat} {a2 : Nat} {a3 : Nat} {a4 : Nat} {x5 : Int32} {y0 : UInt64}  (k : xw G m_Law_law F L bc bs pr px 739 [some (.ref a0), some (.ref a1), some (.ref a2), some (.ref a3), some (.ref a4), some (.int x5), none, none, none] [] h) : xw G m_Law_law F L bc bs pr px 626 [some (.ref a0), some (.ref a1), some (.ref a2), some (.ref a3), some (.ref a4), some (.int x5), none, none, none] [.double y0] h := by
  refine x_dstore d_Law_law_626 (by decide) trivial ?_
  show xw G m_Law_law F L bc bs pr px 628 [some (.ref a0), some (.ref a1), some (.ref a2), some (.ref a3), some (.ref a4), some (.int x5), none, some (.double y0), none] [] h
  refine x_goto (tgt := 739) d_Law_law_628 (by decide) ?_
  exact x_le (lv' := [some (.ref a0), some (.ref a1), some (.ref a2), some (.ref a3), some (.ref a4), some (.int x5), none, none, none]) (xw_le_s (xw_le_s (xw_le_s (xw_le_s (xw_le_s (xw_le_s (xw_le_n (xw_le_n (xw_le_n xw_le_e))))))))) (k)
theorem s_Law_law_631 {G : xw_G} {F L bc bs : Nat} {pr : Option Value → xw_A → Prop} {px : String → xw_A → Prop} {h : xw_A} {a0 : Nat} {a1 : Nat} {a2 : Nat} {a3 : Nat} {a4 : Nat} {x5 : Int32} {N : Nat} {xs : Nat → Int32} (hX : va_X a0 N xs G.2.2.1 G.2.2.1.heap) (i_637 : vp_in (x5 + 1) N) (i_643 : vp_in (x5 + 2) N) (k : xw G m_Law_law F L bc bs pr px 645 [some (.ref a0), some (.ref a1), some (.ref a2), some (.ref a3), some (.ref a4), some (.int x5), none, none, none] [.ref a3, .int (xs (x5 + 2).toNatClampNeg), .int (xs (x5 + 1).toNatClampNeg), .ref a1] h) : xw G m_Law_law F L bc bs pr px 631 [some (.ref a0), some (.ref a1), some (.ref a2), some (.ref a3), some (.ref a4), some (.int x5), none, none, none] [] h := by
  refine x_aload_n d_Law_law_631 rfl rfl ?_
  refine x_aload_n d_Law_law_632 rfl rfl ?_
  refine x_iload d_Law_law_633 rfl ?_
  refine x_iconst (v := 1) d_Law_law_635 (by decide) ?_
  refine x_iadd d_Law_law_636 ?_
  refine x_sld hX d_Law_law_637 i_637 ?_
  refine x_aload_n d_Law_law_638 rfl rfl ?_
  refine x_iload d_Law_law_639 rfl ?_
  refine x_iconst (v := 2) d_Law_law_641 (by decide) ?_
  refine x_iadd d_Law_law_642 ?_
  refine x_sld hX d_Law_law_643 i_643 ?_
  refine x_aload_n d_Law_law_644 rfl rfl ?_
  exact k
theorem s_Law_law_648 {G : xw_G} {F L bc bs : Nat} {pr : Option Value → xw_A → Prop} {px : String → xw_A → Prop} {h : xw_A} {a0 : Nat} {a1 : Nat} {a2 : Nat} {a3 : Nat} {a4 : Nat} {x5 : Int32} {y0 : Int32} {N : Nat} {xs : Nat → Int32} (hX : va_X a0 N xs G.2.2.1 G.2.2.1.heap) (i_656 : vp_in (x5 + 1) N) (i_662 : vp_in (x5 + 2) N) (k : xw G m_Law_law F L bc bs pr px 663 [some (.ref a0), some (.ref a1), some (.ref a2), some (.ref a3), some (.ref a4), some (.int x5), some (.int y0), none, none] [.int (xs (x5 + 2).toNatClampNeg), .int (xs (x5 + 1).toNatClampNeg), .ref a2] h) : xw G m_Law_law F L bc bs pr px 648 [some (.ref a0), some (.ref a1), some (.ref a2), some (.ref a3), some (.ref a4), some (.int x5), none, none, none] [.int y0] h := by
  refine x_istore d_Law_law_648 (by decide) rfl ?_
  show xw G m_Law_law F L bc bs pr px 650 [some (.ref a0), some (.ref a1), some (.ref a2), some (.ref a3), some (.ref a4), some (.int x5), some (.int y0), none, none] [] h
  refine x_aload_n d_Law_law_650 rfl rfl ?_
  refine x_aload_n d_Law_law_651 rfl rfl ?_
  refine x_iload d_Law_law_652 rfl ?_
  refine x_iconst (v := 1) d_Law_law_654 (by decide) ?_
  refine x_iadd d_Law_law_655 ?_
  refine x_sld hX d_Law_law_656 i_656 ?_
  refine x_aload_n d_Law_law_657 rfl rfl ?_
  refine x_iload d_Law_law_658 rfl ?_
  refine x_iconst (v := 2) d_Law_law_660 (by decide) ?_
  refine x_iadd d_Law_law_661 ?_
  refine x_sld hX d_Law_law_662 i_662 ?_
  exact k
theorem s_Law_law_666 {G : xw_G} {F L bc bs : Nat} {pr : Option Value → xw_A → Prop} {px : String → xw_A → Prop} {h : xw_A} {a0 : Nat} {a1 : Nat} {a2 : Nat} {a3 : Nat} {a4 : Nat} {x5 : Int32} {y0 : Int32}  (k : xw G m_Law_law F L bc bs pr px 739 [some (.ref a0), some (.ref a1), some (.ref a2), some (.ref a3), some (.ref a4), some (.int x5), none, none, none] [] h) : xw G m_Law_law F L bc bs pr px 666 [some (.ref a0), some (.ref a1), some (.ref a2), some (.ref a3), some (.ref a4), some (.int x5), none, none, none] [.int y0] h := by
  refine x_istore d_Law_law_666 (by decide) trivial ?_
  show xw G m_Law_law F L bc bs pr px 668 [some (.ref a0), some (.ref a1), some (.ref a2), some (.ref a3), some (.ref a4), some (.int x5), none, some (.int y0), none] [] h
  refine x_goto (tgt := 739) d_Law_law_668 (by decide) ?_
  exact x_le (lv' := [some (.ref a0), some (.ref a1), some (.ref a2), some (.ref a3), some (.ref a4), some (.int x5), none, none, none]) (xw_le_s (xw_le_s (xw_le_s (xw_le_s (xw_le_s (xw_le_s (xw_le_n (xw_le_n (xw_le_n xw_le_e))))))))) (k)
theorem s_Law_law_671 {G : xw_G} {F L bc bs : Nat} {pr : Option Value → xw_A → Prop} {px : String → xw_A → Prop} {h : xw_A} {a0 : Nat} {a1 : Nat} {a2 : Nat} {a3 : Nat} {a4 : Nat} {x5 : Int32} {N : Nat} {xs : Nat → Int32} (hX : va_X a0 N xs G.2.2.1 G.2.2.1.heap) (i_677 : vp_in (x5 + 1) N) (i_683 : vp_in (x5 + 2) N) (k : xw G m_Law_law F L bc bs pr px 685 [some (.ref a0), some (.ref a1), some (.ref a2), some (.ref a3), some (.ref a4), some (.int x5), none, none, none] [.ref a3, .int (xs (x5 + 2).toNatClampNeg), .int (xs (x5 + 1).toNatClampNeg), .ref a1] h) : xw G m_Law_law F L bc bs pr px 671 [some (.ref a0), some (.ref a1), some (.ref a2), some (.ref a3), some (.ref a4), some (.int x5), none, none, none] [] h := by
  refine x_aload_n d_Law_law_671 rfl rfl ?_
  refine x_aload_n d_Law_law_672 rfl rfl ?_
  refine x_iload d_Law_law_673 rfl ?_
  refine x_iconst (v := 1) d_Law_law_675 (by decide) ?_
  refine x_iadd d_Law_law_676 ?_
  refine x_sld hX d_Law_law_677 i_677 ?_
  refine x_aload_n d_Law_law_678 rfl rfl ?_
  refine x_iload d_Law_law_679 rfl ?_
  refine x_iconst (v := 2) d_Law_law_681 (by decide) ?_
  refine x_iadd d_Law_law_682 ?_
  refine x_sld hX d_Law_law_683 i_683 ?_
  refine x_aload_n d_Law_law_684 rfl rfl ?_
  exact k
theorem s_Law_law_688 {G : xw_G} {F L bc bs : Nat} {pr : Option Value → xw_A → Prop} {px : String → xw_A → Prop} {h : xw_A} {a0 : Nat} {a1 : Nat} {a2 : Nat} {a3 : Nat} {a4 : Nat} {x5 : Int32} {y0 : Int32} {N : Nat} {xs : Nat → Int32} (hX : va_X a0 N xs G.2.2.1 G.2.2.1.heap) (i_696 : vp_in (x5 + 1) N) (i_702 : vp_in (x5 + 2) N) (k : xw G m_Law_law F L bc bs pr px 703 [some (.ref a0), some (.ref a1), some (.ref a2), some (.ref a3), some (.ref a4), some (.int x5), some (.int y0), none, none] [.int (xs (x5 + 2).toNatClampNeg), .int (xs (x5 + 1).toNatClampNeg), .ref a2] h) : xw G m_Law_law F L bc bs pr px 688 [some (.ref a0), some (.ref a1), some (.ref a2), some (.ref a3), some (.ref a4), some (.int x5), none, none, none] [.int y0] h := by
  refine x_istore d_Law_law_688 (by decide) rfl ?_
  show xw G m_Law_law F L bc bs pr px 690 [some (.ref a0), some (.ref a1), some (.ref a2), some (.ref a3), some (.ref a4), some (.int x5), some (.int y0), none, none] [] h
  refine x_aload_n d_Law_law_690 rfl rfl ?_
  refine x_aload_n d_Law_law_691 rfl rfl ?_
  refine x_iload d_Law_law_692 rfl ?_
  refine x_iconst (v := 1) d_Law_law_694 (by decide) ?_
  refine x_iadd d_Law_law_695 ?_
  refine x_sld hX d_Law_law_696 i_696 ?_
  refine x_aload_n d_Law_law_697 rfl rfl ?_
  refine x_iload d_Law_law_698 rfl ?_
  refine x_iconst (v := 2) d_Law_law_700 (by decide) ?_
  refine x_iadd d_Law_law_701 ?_
  refine x_sld hX d_Law_law_702 i_702 ?_
  exact k
theorem s_Law_law_706 {G : xw_G} {F L bc bs : Nat} {pr : Option Value → xw_A → Prop} {px : String → xw_A → Prop} {h : xw_A} {a0 : Nat} {a1 : Nat} {a2 : Nat} {a3 : Nat} {a4 : Nat} {x5 : Int32} {y0 : Int32}  (k : xw G m_Law_law F L bc bs pr px 739 [some (.ref a0), some (.ref a1), some (.ref a2), some (.ref a3), some (.ref a4), some (.int x5), none, none, none] [] h) : xw G m_Law_law F L bc bs pr px 706 [some (.ref a0), some (.ref a1), some (.ref a2), some (.ref a3), some (.ref a4), some (.int x5), none, none, none] [.int y0] h := by
  refine x_istore d_Law_law_706 (by decide) trivial ?_
  show xw G m_Law_law F L bc bs pr px 708 [some (.ref a0), some (.ref a1), some (.ref a2), some (.ref a3), some (.ref a4), some (.int x5), none, some (.int y0), none] [] h
  refine x_goto (tgt := 739) d_Law_law_708 (by decide) ?_
  exact x_le (lv' := [some (.ref a0), some (.ref a1), some (.ref a2), some (.ref a3), some (.ref a4), some (.int x5), none, none, none]) (xw_le_s (xw_le_s (xw_le_s (xw_le_s (xw_le_s (xw_le_s (xw_le_n (xw_le_n (xw_le_n xw_le_e))))))))) (k)
theorem s_Law_law_711 {G : xw_G} {F L bc bs : Nat} {pr : Option Value → xw_A → Prop} {px : String → xw_A → Prop} {h : xw_A} {a0 : Nat} {a1 : Nat} {a2 : Nat} {a3 : Nat} {a4 : Nat} {x5 : Int32} {N : Nat} {xs : Nat → Int32} (hX : va_X a0 N xs G.2.2.1 G.2.2.1.heap) (i_717 : vp_in (x5 + 1) N) (k : xw G m_Law_law F L bc bs pr px 719 [some (.ref a0), some (.ref a1), some (.ref a2), some (.ref a3), some (.ref a4), some (.int x5), none, none, none] [.ref a3, .int (xs (x5 + 1).toNatClampNeg), .ref a1] h) : xw G m_Law_law F L bc bs pr px 711 [some (.ref a0), some (.ref a1), some (.ref a2), some (.ref a3), some (.ref a4), some (.int x5), none, none, none] [] h := by
  refine x_aload_n d_Law_law_711 rfl rfl ?_
  refine x_aload_n d_Law_law_712 rfl rfl ?_
  refine x_iload d_Law_law_713 rfl ?_
  refine x_iconst (v := 1) d_Law_law_715 (by decide) ?_
  refine x_iadd d_Law_law_716 ?_
  refine x_sld hX d_Law_law_717 i_717 ?_
  refine x_aload_n d_Law_law_718 rfl rfl ?_
  exact k
theorem s_Law_law_722 {G : xw_G} {F L bc bs : Nat} {pr : Option Value → xw_A → Prop} {px : String → xw_A → Prop} {h : xw_A} {a0 : Nat} {a1 : Nat} {a2 : Nat} {a3 : Nat} {a4 : Nat} {x5 : Int32} {y0 : Int32} {N : Nat} {xs : Nat → Int32} (hX : va_X a0 N xs G.2.2.1 G.2.2.1.heap) (i_730 : vp_in (x5 + 1) N) (k : xw G m_Law_law F L bc bs pr px 731 [some (.ref a0), some (.ref a1), some (.ref a2), some (.ref a3), some (.ref a4), some (.int x5), some (.int y0), none, none] [.int (xs (x5 + 1).toNatClampNeg), .ref a2] h) : xw G m_Law_law F L bc bs pr px 722 [some (.ref a0), some (.ref a1), some (.ref a2), some (.ref a3), some (.ref a4), some (.int x5), none, none, none] [.int y0] h := by
  refine x_istore d_Law_law_722 (by decide) rfl ?_
  show xw G m_Law_law F L bc bs pr px 724 [some (.ref a0), some (.ref a1), some (.ref a2), some (.ref a3), some (.ref a4), some (.int x5), some (.int y0), none, none] [] h
  refine x_aload_n d_Law_law_724 rfl rfl ?_
  refine x_aload_n d_Law_law_725 rfl rfl ?_
  refine x_iload d_Law_law_726 rfl ?_
  refine x_iconst (v := 1) d_Law_law_728 (by decide) ?_
  refine x_iadd d_Law_law_729 ?_
  refine x_sld hX d_Law_law_730 i_730 ?_
  exact k
theorem s_Law_law_734 {G : xw_G} {F L bc bs : Nat} {pr : Option Value → xw_A → Prop} {px : String → xw_A → Prop} {h : xw_A} {a0 : Nat} {a1 : Nat} {a2 : Nat} {a3 : Nat} {a4 : Nat} {x5 : Int32} {y0 : Int32}  (k : xw G m_Law_law F L bc bs pr px 739 [some (.ref a0), some (.ref a1), some (.ref a2), some (.ref a3), some (.ref a4), some (.int x5), none, none, none] [] h) : xw G m_Law_law F L bc bs pr px 734 [some (.ref a0), some (.ref a1), some (.ref a2), some (.ref a3), some (.ref a4), some (.int x5), none, none, none] [.int y0] h := by
  refine x_istore d_Law_law_734 (by decide) trivial ?_
  show xw G m_Law_law F L bc bs pr px 736 [some (.ref a0), some (.ref a1), some (.ref a2), some (.ref a3), some (.ref a4), some (.int x5), none, some (.int y0), none] [] h
  refine x_goto (tgt := 739) d_Law_law_736 (by decide) ?_
  exact x_le (lv' := [some (.ref a0), some (.ref a1), some (.ref a2), some (.ref a3), some (.ref a4), some (.int x5), none, none, none]) (xw_le_s (xw_le_s (xw_le_s (xw_le_s (xw_le_s (xw_le_s (xw_le_n (xw_le_n (xw_le_n xw_le_e))))))))) (k)
theorem s_Law_law_739 {G : xw_G} {F L bc bs : Nat} {pr : Option Value → xw_A → Prop} {px : String → xw_A → Prop} {h : xw_A} {a0 : Nat} {a1 : Nat} {a2 : Nat} {a3 : Nat} {a4 : Nat} {x5 : Int32}  (k : xw G m_Law_law F L bc bs pr px 28 [some (.ref a0), some (.ref a1), some (.ref a2), some (.ref a3), some (.ref a4), some (.int (x5 + 3)), none, none, none] [] h) : xw G m_Law_law F L bc bs pr px 739 [some (.ref a0), some (.ref a1), some (.ref a2), some (.ref a3), some (.ref a4), some (.int x5), none, none, none] [] h := by
  refine x_iinc (v := x5 + 3) d_Law_law_739 rfl (by rfl) (by decide) rfl ?_
  show xw G m_Law_law F L bc bs pr px 742 [some (.ref a0), some (.ref a1), some (.ref a2), some (.ref a3), some (.ref a4), some (.int (x5 + 3)), none, none, none] [] h
  refine x_goto (tgt := 28) d_Law_law_742 (by decide) ?_
  exact k
theorem s_Law_law_745 {G : xw_G} {F L bc bs : Nat} {pr : Option Value → xw_A → Prop} {px : String → xw_A → Prop} {h : xw_A}   (kr : pr (some (.int 1)) h) : xw G m_Law_law F L bc bs pr px 745 [none, none, none, none, none, none, none, none, none] [] h := by
  refine x_iconst (v := 1) d_Law_law_745 (by decide) ?_
  exact x_zret d_Law_law_746 rfl rfl kr
