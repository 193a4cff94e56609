/-! blocks of Phrase: by program -/
theorem s_Phrase_init_0 {G : xw_G} {F L bc bs : Nat} {pr : Option Value → xw_A → Prop} {px : String → xw_A → Prop} {h : xw_A} {a0 : Nat} (r_1 : 1 ≤ F ∧ 0 + 12 ≤ L) (kr : pr none h) : xw G m_Phrase_init F L bc bs pr px 0 [some (.ref a0)] [] h := by
  refine x_aload_n d_Phrase_init_0 rfl rfl ?_
  refine x_objInit d_Phrase_init_1 oi_Phrase r_1.1 (by simpa [Value.category] using r_1.2) ?_
  exact x_vret d_Phrase_init_4 rfl kr
