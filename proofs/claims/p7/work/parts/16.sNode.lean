/-! blocks of Node: by program -/
theorem s_Node_init_0 {G : xw_G} {F L bc bs : Nat} {pr : Option Value → xw_A → Prop} {px : String → xw_A → Prop} {h : xw_A} {a0 : Nat} (r_1 : 1 ≤ F ∧ 0 + 12 ≤ L) (kr : pr none h) : xw G m_Node_init F L bc bs pr px 0 [some (.ref a0)] [] h := by
  refine x_aload_n d_Node_init_0 rfl rfl ?_
  refine x_objInit d_Node_init_1 oi_Node r_1.1 (by simpa [Value.category] using r_1.2) ?_
  exact x_vret d_Node_init_4 rfl kr
