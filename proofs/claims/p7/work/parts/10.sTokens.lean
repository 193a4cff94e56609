/-! blocks of Tokens: by program -/
theorem s_Tokens_init_0 {G : xw_G} {F L bc bs : Nat} {pr : Option Value → xw_A → Prop} {px : String → xw_A → Prop} {h : xw_A} {a0 : Nat} {x1 : Int32} {letters_a0 : Option Nat} {starts_a0 : Option Nat} {count_a0 : Int32} (r_1 : 1 ≤ F ∧ 0 + 12 ≤ L) (l_6 : ¬ x1 < 0) (u_6 : 1 ≤ bc ∧ x1.toNatClampNeg ≤ bs) (l_6b : x1.toNatClampNeg * componentBytes .char ≤ 536870912) (e_a0 : h a0 = some (.inr (9, [va_rf letters_a0, va_rf starts_a0, .int count_a0]))) (l_19 : ¬ (((x1 + 1) / 2) + 1) < 0) (u_19 : 1 ≤ (bc - 1) ∧ (((x1 + 1) / 2) + 1).toNatClampNeg ≤ (bs - x1.toNatClampNeg)) (l_19b : (((x1 + 1) / 2) + 1).toNatClampNeg * componentBytes .int ≤ 536870912) (k : ∀ q6 : Nat, h q6 = none → ∀ q19 : Nat, (xw_up (xw_up h q6 (.inl (1, (x1.toNatClampNeg), .inl ((fun _ => 0))))) a0 (.inr (9, [.ref q6, va_rf starts_a0, .int count_a0]))) q19 = none → xw G m_Tokens_init F L ((bc - 1) - 1) ((bs - x1.toNatClampNeg) - ((((x1 + 1) / 2) + 1).toNatClampNeg)) pr px 24 [none, none] [] (xw_up (xw_up (xw_up (xw_up h q6 (.inl (1, (x1.toNatClampNeg), .inl ((fun _ => 0))))) a0 (.inr (9, [.ref q6, va_rf starts_a0, .int count_a0]))) q19 (.inl (0, ((((x1 + 1) / 2) + 1).toNatClampNeg), .inl ((fun _ => 0))))) a0 (.inr (9, [.ref q6, .ref q19, .int count_a0])))) : xw G m_Tokens_init F L bc bs pr px 0 [some (.ref a0), some (.int x1)] [] h := by
  refine x_aload_n d_Tokens_init_0 rfl rfl ?_
  refine x_objInit d_Tokens_init_1 oi_Tokens r_1.1 (by simpa [Value.category] using r_1.2) ?_
  refine x_aload_n d_Tokens_init_4 rfl rfl ?_
  refine x_iload_n d_Tokens_init_5 rfl rfl ?_
  refine x_cnew (N := x1.toNatClampNeg) d_Tokens_init_6 (by decide +kernel) l_6 rfl l_6b u_6 (fun q6 hq6 => ?_)
  show xw G m_Tokens_init F L (bc - 1) (bs - x1.toNatClampNeg) pr px 8 [some (.ref a0), some (.int x1)] [.ref q6, .ref a0] (xw_up h q6 (.inl (1, (x1.toNatClampNeg), .inl ((fun _ => 0)))))
  refine x_putF (ty := (.array .char)) d_Tokens_init_8 f_Tokens_7 fw_Tokens_0.1 rfl rfl fw_Tokens_0.2 rfl rfl (Nat.le_of_ble_eq_true rfl) ((xw_up_n _ _ (xw_neN e_a0 hq6)).trans e_a0) ?_
  show xw G m_Tokens_init F L (bc - 1) (bs - x1.toNatClampNeg) pr px 11 [some (.ref a0), some (.int x1)] [] (xw_up (xw_up h q6 (.inl (1, (x1.toNatClampNeg), .inl ((fun _ => 0))))) a0 (.inr (9, [.ref q6, va_rf starts_a0, .int count_a0])))
  refine x_aload_n d_Tokens_init_11 rfl rfl ?_
  refine x_iload_n d_Tokens_init_12 rfl rfl ?_
  refine x_iconst (v := 1) d_Tokens_init_13 (by decide) ?_
  refine x_iadd d_Tokens_init_14 ?_
  refine x_iconst (v := 2) d_Tokens_init_15 (by decide) ?_
  refine x_idiv d_Tokens_init_16 (by decide) ?_
  refine x_iconst (v := 1) d_Tokens_init_17 (by decide) ?_
  refine x_iadd d_Tokens_init_18 ?_
  refine x_inew (N := (((x1 + 1) / 2) + 1).toNatClampNeg) d_Tokens_init_19 (by decide +kernel) l_19 rfl l_19b u_19 (fun q19 hq19 => ?_)
  show xw G m_Tokens_init F L ((bc - 1) - 1) ((bs - x1.toNatClampNeg) - ((((x1 + 1) / 2) + 1).toNatClampNeg)) pr px 21 [some (.ref a0), some (.int x1)] [.ref q19, .ref a0] (xw_up (xw_up (xw_up h q6 (.inl (1, (x1.toNatClampNeg), .inl ((fun _ => 0))))) a0 (.inr (9, [.ref q6, va_rf starts_a0, .int count_a0]))) q19 (.inl (0, ((((x1 + 1) / 2) + 1).toNatClampNeg), .inl ((fun _ => 0)))))
  refine x_putF (ty := (.array .int)) d_Tokens_init_21 f_Tokens_13 fw_Tokens_1.1 rfl rfl fw_Tokens_1.2 rfl rfl (Nat.le_of_ble_eq_true rfl) ((xw_up_n _ _ (xw_neN (xw_up_s _ _ _) hq19)).trans (xw_up_s _ _ _)) ?_
  show xw G m_Tokens_init F L ((bc - 1) - 1) ((bs - x1.toNatClampNeg) - ((((x1 + 1) / 2) + 1).toNatClampNeg)) pr px 24 [some (.ref a0), some (.int x1)] [] (xw_up (xw_up (xw_up (xw_up h q6 (.inl (1, (x1.toNatClampNeg), .inl ((fun _ => 0))))) a0 (.inr (9, [.ref q6, va_rf starts_a0, .int count_a0]))) q19 (.inl (0, ((((x1 + 1) / 2) + 1).toNatClampNeg), .inl ((fun _ => 0))))) a0 (.inr (9, [.ref q6, .ref q19, .int count_a0])))
  exact x_le (lv' := [none, none]) (xw_le_n (xw_le_n xw_le_e)) ((k q6 hq6 q19 hq19))
theorem s_Tokens_init_24 {G : xw_G} {F L bc bs : Nat} {pr : Option Value → xw_A → Prop} {px : String → xw_A → Prop} {h : xw_A}   (kr : pr none h) : xw G m_Tokens_init F L bc bs pr px 24 [none, none] [] h := by
  exact x_vret d_Tokens_init_24 rfl kr
theorem s_Tokens_gather_0 {G : xw_G} {F L bc bs : Nat} {pr : Option Value → xw_A → Prop} {px : String → xw_A → Prop} {h : xw_A} {a0 : Nat} {a1 : Nat} {x2 : Int32} {x3 : Int32}  (k : xw G m_Tokens_gather F L bc bs pr px 6 [some (.ref a0), some (.ref a1), none, some (.int x3), some (.int 0), some (.int x2), none] [] h) : xw G m_Tokens_gather F L bc bs pr px 0 [some (.ref a0), some (.ref a1), some (.int x2), some (.int x3), none, none, none] [] h := by
  refine x_iconst (v := 0) d_Tokens_gather_0 (by decide) ?_
  refine x_istore d_Tokens_gather_1 (by decide) rfl ?_
  show xw G m_Tokens_gather F L bc bs pr px 3 [some (.ref a0), some (.ref a1), some (.int x2), some (.int x3), some (.int 0), none, none] [] h
  refine x_iload_n d_Tokens_gather_3 rfl rfl ?_
  refine x_istore d_Tokens_gather_4 (by decide) rfl ?_
  show xw G m_Tokens_gather F L bc bs pr px 6 [some (.ref a0), some (.ref a1), some (.int x2), some (.int x3), some (.int 0), some (.int x2), none] [] h
  exact x_le (lv' := [some (.ref a0), some (.ref a1), none, some (.int x3), some (.int 0), some (.int x2), none]) (xw_le_s (xw_le_s (xw_le_n (xw_le_s (xw_le_s (xw_le_s (xw_le_n xw_le_e))))))) (k)
theorem s_Tokens_gather_6 {G : xw_G} {F L bc bs : Nat} {pr : Option Value → xw_A → Prop} {px : String → xw_A → Prop} {h : xw_A} {a0 : Nat} {a1 : Nat} {x3 : Int32} {x4 : Int32} {x5 : Int32}  (kt : x3 ≤ x5 → xw G m_Tokens_gather F L bc bs pr px 98 [none, none, none, none, none, none, none] [] h) (kf : ¬ x3 ≤ x5 → xw G m_Tokens_gather F L bc bs pr px 12 [some (.ref a0), some (.ref a1), none, some (.int x3), some (.int x4), some (.int x5), none] [] h) : xw G m_Tokens_gather F L bc bs pr px 6 [some (.ref a0), some (.ref a1), none, some (.int x3), some (.int x4), some (.int x5), none] [] h := by
  refine x_iload d_Tokens_gather_6 rfl ?_
  refine x_iload_n d_Tokens_gather_8 rfl rfl ?_
  refine x_icmp_ge (tgt := 98) d_Tokens_gather_9 (by decide) (fun hc => ?_) (fun hc => ?_)
  · exact x_le (lv' := [none, none, none, none, none, none, none]) (xw_le_n (xw_le_n (xw_le_n (xw_le_n (xw_le_n (xw_le_n (xw_le_n xw_le_e))))))) (kt hc)
  · exact kf hc
theorem s_Tokens_gather_12 {G : xw_G} {F L bc bs : Nat} {pr : Option Value → xw_A → Prop} {px : String → xw_A → Prop} {h : xw_A} {a0 : Nat} {a1 : Nat} {x3 : Int32} {x4 : Int32} {x5 : Int32} {n_a1 : Nat} {f_a1 : Nat → Int32} (e_a1 : h a1 = some (.inl (1, n_a1, .inl f_a1))) (i_15 : vp_in x5 n_a1) (k : xw G m_Tokens_gather F L bc bs pr px 16 [some (.ref a0), some (.ref a1), none, some (.int x3), some (.int x4), some (.int x5), none] [.int (f_a1 x5.toNatClampNeg)] h) : xw G m_Tokens_gather F L bc bs pr px 12 [some (.ref a0), some (.ref a1), none, some (.int x3), some (.int x4), some (.int x5), none] [] h := by
  refine x_aload_n d_Tokens_gather_12 rfl rfl ?_
  refine x_iload d_Tokens_gather_13 rfl ?_
  refine x_cald d_Tokens_gather_15 e_a1 i_15 ?_
  exact k
theorem s_Tokens_gather_19 {G : xw_G} {F L bc bs : Nat} {pr : Option Value → xw_A → Prop} {px : String → xw_A → Prop} {h : xw_A} {a0 : Nat} {a1 : Nat} {x3 : Int32} {x4 : Int32} {x5 : Int32} {y0 : Int32}  (kt : y0 = 0 → xw G m_Tokens_gather F L bc bs pr px 88 [some (.ref a0), some (.ref a1), none, some (.int x3), none, some (.int x5), some (.int y0)] [] h) (kf : ¬ y0 = 0 → xw G m_Tokens_gather F L bc bs pr px 26 [some (.ref a0), some (.ref a1), none, some (.int x3), some (.int x4), some (.int x5), some (.int y0)] [] h) : xw G m_Tokens_gather F L bc bs pr px 19 [some (.ref a0), some (.ref a1), none, some (.int x3), some (.int x4), some (.int x5), none] [.int y0] h := by
  refine x_istore d_Tokens_gather_19 (by decide) rfl ?_
  show xw G m_Tokens_gather F L bc bs pr px 21 [some (.ref a0), some (.ref a1), none, some (.int x3), some (.int x4), some (.int x5), some (.int y0)] [] h
  refine x_iload d_Tokens_gather_21 rfl ?_
  refine x_if_eq (tgt := 88) d_Tokens_gather_23 (by decide) (fun hc => ?_) (fun hc => ?_)
  · exact x_le (lv' := [some (.ref a0), some (.ref a1), none, some (.int x3), none, some (.int x5), some (.int y0)]) (xw_le_s (xw_le_s (xw_le_n (xw_le_s (xw_le_n (xw_le_s (xw_le_s xw_le_e))))))) (kt hc)
  · exact kf hc
theorem s_Tokens_gather_26 {G : xw_G} {F L bc bs : Nat} {pr : Option Value → xw_A → Prop} {px : String → xw_A → Prop} {h : xw_A} {a0 : Nat} {a1 : Nat} {x3 : Int32} {x4 : Int32} {x5 : Int32} {x6 : Int32}  (kt : ¬ x4 = 0 → xw G m_Tokens_gather F L bc bs pr px 45 [some (.ref a0), some (.ref a1), none, some (.int x3), some (.int x4), some (.int x5), some (.int x6)] [] h) (kf : x4 = 0 → xw G m_Tokens_gather F L bc bs pr px 31 [some (.ref a0), some (.ref a1), none, some (.int x3), some (.int x4), some (.int x5), some (.int x6)] [] h) : xw G m_Tokens_gather F L bc bs pr px 26 [some (.ref a0), some (.ref a1), none, some (.int x3), some (.int x4), some (.int x5), some (.int x6)] [] h := by
  refine x_iload d_Tokens_gather_26 rfl ?_
  refine x_if_ne (tgt := 45) d_Tokens_gather_28 (by decide) (fun hc => ?_) (fun hc => ?_)
  · exact kt hc
  · exact kf hc
theorem s_Tokens_gather_31 {G : xw_G} {F L bc bs : Nat} {pr : Option Value → xw_A → Prop} {px : String → xw_A → Prop} {h : xw_A} {a0 : Nat} {a1 : Nat} {x3 : Int32} {x4 : Int32} {x5 : Int32} {x6 : Int32} {letters_a0 : Option Nat} {starts_a0 : Nat} {count_a0 : Int32} {n_starts_a0 : Nat} {f_starts_a0 : Nat → Int32} (e_a0 : h a0 = some (.inr (9, [va_rf letters_a0, .ref starts_a0, .int count_a0]))) (e_starts_a0 : h starts_a0 = some (.inl (0, n_starts_a0, .inl f_starts_a0))) (kt : (Int32.ofNat n_starts_a0) ≤ (count_a0 + 1) → xw G m_Tokens_gather F L bc bs pr px 88 [some (.ref a0), some (.ref a1), none, some (.int x3), none, some (.int x5), some (.int x6)] [] h) (kf : ¬ (Int32.ofNat n_starts_a0) ≤ (count_a0 + 1) → xw G m_Tokens_gather F L bc bs pr px 45 [some (.ref a0), some (.ref a1), none, some (.int x3), some (.int x4), some (.int x5), some (.int x6)] [] h) : xw G m_Tokens_gather F L bc bs pr px 31 [some (.ref a0), some (.ref a1), none, some (.int x3), some (.int x4), some (.int x5), some (.int x6)] [] h := by
  refine x_aload_n d_Tokens_gather_31 rfl rfl ?_
  refine x_get d_Tokens_gather_32 f_Tokens_23 e_a0 rfl ?_
  refine x_iconst (v := 1) d_Tokens_gather_35 (by decide) ?_
  refine x_iadd d_Tokens_gather_36 ?_
  refine x_aload_n d_Tokens_gather_37 rfl rfl ?_
  refine x_get d_Tokens_gather_38 f_Tokens_13 e_a0 rfl ?_
  refine x_alen d_Tokens_gather_41 e_starts_a0 rfl ?_
  refine x_icmp_ge (tgt := 88) d_Tokens_gather_42 (by decide) (fun hc => ?_) (fun hc => ?_)
  · exact x_le (lv' := [some (.ref a0), some (.ref a1), none, some (.int x3), none, some (.int x5), some (.int x6)]) (xw_le_s (xw_le_s (xw_le_n (xw_le_s (xw_le_n (xw_le_s (xw_le_s xw_le_e))))))) (kt hc)
  · exact kf hc
theorem s_Tokens_gather_45 {G : xw_G} {F L bc bs : Nat} {pr : Option Value → xw_A → Prop} {px : String → xw_A → Prop} {h : xw_A} {a0 : Nat} {a1 : Nat} {x3 : Int32} {x4 : Int32} {x5 : Int32} {x6 : Int32}  (kt : ¬ x4 = 0 → xw G m_Tokens_gather F L bc bs pr px 80 [some (.ref a0), some (.ref a1), none, some (.int x3), none, some (.int x5), some (.int x6)] [] h) (kf : x4 = 0 → xw G m_Tokens_gather F L bc bs pr px 50 [some (.ref a0), some (.ref a1), none, some (.int x3), none, some (.int x5), some (.int x6)] [] h) : xw G m_Tokens_gather F L bc bs pr px 45 [some (.ref a0), some (.ref a1), none, some (.int x3), some (.int x4), some (.int x5), some (.int x6)] [] h := by
  refine x_iload d_Tokens_gather_45 rfl ?_
  refine x_if_ne (tgt := 80) d_Tokens_gather_47 (by decide) (fun hc => ?_) (fun hc => ?_)
  · exact x_le (lv' := [some (.ref a0), some (.ref a1), none, some (.int x3), none, some (.int x5), some (.int x6)]) (xw_le_s (xw_le_s (xw_le_n (xw_le_s (xw_le_n (xw_le_s (xw_le_s xw_le_e))))))) (kt hc)
  · exact x_le (lv' := [some (.ref a0), some (.ref a1), none, some (.int x3), none, some (.int x5), some (.int x6)]) (xw_le_s (xw_le_s (xw_le_n (xw_le_s (xw_le_n (xw_le_s (xw_le_s xw_le_e))))))) (kf hc)
theorem s_Tokens_gather_50 {G : xw_G} {F L bc bs : Nat} {pr : Option Value → xw_A → Prop} {px : String → xw_A → Prop} {h : xw_A} {a0 : Nat} {a1 : Nat} {x3 : Int32} {x5 : Int32} {x6 : Int32} {letters_a0 : Option Nat} {starts_a0 : Nat} {count_a0 : Int32} {n_starts_a0 : Nat} {f_starts_a0 : Nat → Int32} (e_a0 : h a0 = some (.inr (9, [va_rf letters_a0, .ref starts_a0, .int count_a0]))) (e_starts_a0 : h starts_a0 = some (.inl (0, n_starts_a0, .inl f_starts_a0))) (i_78 : vp_in ((count_a0 + 1) - 1) n_starts_a0) (i_79 : vp_in (count_a0 + 1) n_starts_a0) (k : xw G m_Tokens_gather F L bc bs pr px 80 [some (.ref a0), some (.ref a1), none, some (.int x3), none, some (.int x5), some (.int x6)] [] (xw_up (xw_up h a0 (.inr (9, [va_rf letters_a0, .ref starts_a0, .int (count_a0 + 1)]))) starts_a0 (.inl (0, n_starts_a0, .inl (upd f_starts_a0 ((count_a0 + 1)).toNatClampNeg (f_starts_a0 ((count_a0 + 1) - 1).toNatClampNeg)))))) : xw G m_Tokens_gather F L bc bs pr px 50 [some (.ref a0), some (.ref a1), none, some (.int x3), none, some (.int x5), some (.int x6)] [] h := by
  refine x_aload_n d_Tokens_gather_50 rfl rfl ?_
  refine x_dup d_Tokens_gather_51 rfl ?_
  refine x_get d_Tokens_gather_52 f_Tokens_23 e_a0 rfl ?_
  refine x_iconst (v := 1) d_Tokens_gather_55 (by decide) ?_
  refine x_iadd d_Tokens_gather_56 ?_
  refine x_put (ty := .int) d_Tokens_gather_57 f_Tokens_23 fw_Tokens_2.1 fw_Tokens_2.2 rfl rfl (Nat.le_of_ble_eq_true rfl) e_a0 ?_
  show xw G m_Tokens_gather F L bc bs pr px 60 [some (.ref a0), some (.ref a1), none, some (.int x3), none, some (.int x5), some (.int x6)] [] (xw_up h a0 (.inr (9, [va_rf letters_a0, .ref starts_a0, .int (count_a0 + 1)])))
  refine x_aload_n d_Tokens_gather_60 rfl rfl ?_
  refine x_get d_Tokens_gather_61 f_Tokens_13 (xw_up_s _ _ _) rfl ?_
  refine x_aload_n d_Tokens_gather_64 rfl rfl ?_
  refine x_get d_Tokens_gather_65 f_Tokens_23 (xw_up_s _ _ _) rfl ?_
  refine x_aload_n d_Tokens_gather_68 rfl rfl ?_
  refine x_get d_Tokens_gather_69 f_Tokens_13 (xw_up_s _ _ _) rfl ?_
  refine x_aload_n d_Tokens_gather_72 rfl rfl ?_
  refine x_get d_Tokens_gather_73 f_Tokens_23 (xw_up_s _ _ _) rfl ?_
  refine x_iconst (v := 1) d_Tokens_gather_76 (by decide) ?_
  refine x_isub d_Tokens_gather_77 ?_
  refine x_iald d_Tokens_gather_78 ((xw_up_n _ _ (xw_ne e_starts_a0 e_a0 (by simp))).trans e_starts_a0) i_78 ?_
  refine x_iast d_Tokens_gather_79 ((xw_up_n _ _ (xw_ne e_starts_a0 e_a0 (by simp))).trans e_starts_a0) i_79 ?_
  exact k
theorem s_Tokens_gather_80 {G : xw_G} {F L bc bs : Nat} {pr : Option Value → xw_A → Prop} {px : String → xw_A → Prop} {h : xw_A} {a0 : Nat} {a1 : Nat} {x3 : Int32} {x5 : Int32} {x6 : Int32} {n_a1 : Nat} {f_a1 : Nat → Int32} (e_a1 : h a1 = some (.inl (1, n_a1, .inl f_a1))) (i_84 : vp_in x5 n_a1) (k : xw G m_Tokens_gather F L bc bs pr px 85 [some (.ref a0), some (.ref a1), none, some (.int x3), none, some (.int x5), some (.int x6)] [.int (f_a1 x5.toNatClampNeg), .ref a0] h) : xw G m_Tokens_gather F L bc bs pr px 80 [some (.ref a0), some (.ref a1), none, some (.int x3), none, some (.int x5), some (.int x6)] [] h := by
  refine x_aload_n d_Tokens_gather_80 rfl rfl ?_
  refine x_aload_n d_Tokens_gather_81 rfl rfl ?_
  refine x_iload d_Tokens_gather_82 rfl ?_
  refine x_cald d_Tokens_gather_84 e_a1 i_84 ?_
  exact k
theorem s_Tokens_gather_88 {G : xw_G} {F L bc bs : Nat} {pr : Option Value → xw_A → Prop} {px : String → xw_A → Prop} {h : xw_A} {a0 : Nat} {a1 : Nat} {x3 : Int32} {x5 : Int32} {x6 : Int32}  (k : xw G m_Tokens_gather F L bc bs pr px 6 [some (.ref a0), some (.ref a1), none, some (.int x3), some (.int x6), some (.int (x5 + 1)), none] [] h) : xw G m_Tokens_gather F L bc bs pr px 88 [some (.ref a0), some (.ref a1), none, some (.int x3), none, some (.int x5), some (.int x6)] [] h := by
  refine x_iload d_Tokens_gather_88 rfl ?_
  refine x_istore d_Tokens_gather_90 (by decide) rfl ?_
  show xw G m_Tokens_gather F L bc bs pr px 92 [some (.ref a0), some (.ref a1), none, some (.int x3), some (.int x6), some (.int x5), some (.int x6)] [] h
  refine x_iinc (v := x5 + 1) d_Tokens_gather_92 rfl (by rfl) (by decide) rfl ?_
  show xw G m_Tokens_gather F L bc bs pr px 95 [some (.ref a0), some (.ref a1), none, some (.int x3), some (.int x6), some (.int (x5 + 1)), some (.int x6)] [] h
  refine x_goto (tgt := 6) d_Tokens_gather_95 (by decide) ?_
  exact x_le (lv' := [some (.ref a0), some (.ref a1), none, some (.int x3), some (.int x6), some (.int (x5 + 1)), none]) (xw_le_s (xw_le_s (xw_le_n (xw_le_s (xw_le_s (xw_le_s (xw_le_n xw_le_e))))))) (k)
theorem s_Tokens_gather_98 {G : xw_G} {F L bc bs : Nat} {pr : Option Value → xw_A → Prop} {px : String → xw_A → Prop} {h : xw_A}   (kr : pr none h) : xw G m_Tokens_gather F L bc bs pr px 98 [none, none, none, none, none, none, none] [] h := by
  exact x_vret d_Tokens_gather_98 rfl kr
theorem s_Tokens_addLetter_0 {G : xw_G} {F L bc bs : Nat} {pr : Option Value → xw_A → Prop} {px : String → xw_A → Prop} {h : xw_A} {a0 : Nat} {x1 : Int32} {letters_a0 : Nat} {starts_a0 : Nat} {count_a0 : Int32} {n_starts_a0 : Nat} {f_starts_a0 : Nat → Int32} {n_letters_a0 : Nat} {f_letters_a0 : Nat → Int32} (e_a0 : h a0 = some (.inr (9, [.ref letters_a0, .ref starts_a0, .int count_a0]))) (e_starts_a0 : h starts_a0 = some (.inl (0, n_starts_a0, .inl f_starts_a0))) (i_8 : vp_in count_a0 n_starts_a0) (e_letters_a0 : h letters_a0 = some (.inl (1, n_letters_a0, .inl f_letters_a0))) (kt : (Int32.ofNat n_letters_a0) ≤ (f_starts_a0 count_a0.toNatClampNeg) → xw G m_Tokens_addLetter F L bc bs pr px 61 [none, none, none] [] h) (kf : ¬ (Int32.ofNat n_letters_a0) ≤ (f_starts_a0 count_a0.toNatClampNeg) → xw G m_Tokens_addLetter F L bc bs pr px 19 [some (.ref a0), some (.int x1), some (.int (f_starts_a0 count_a0.toNatClampNeg))] [] h) : xw G m_Tokens_addLetter F L bc bs pr px 0 [some (.ref a0), some (.int x1), none] [] h := by
  refine x_aload_n d_Tokens_addLetter_0 rfl rfl ?_
  refine x_get d_Tokens_addLetter_1 f_Tokens_13 e_a0 rfl ?_
  refine x_aload_n d_Tokens_addLetter_4 rfl rfl ?_
  refine x_get d_Tokens_addLetter_5 f_Tokens_23 e_a0 rfl ?_
  refine x_iald d_Tokens_addLetter_8 e_starts_a0 i_8 ?_
  refine x_istore_n d_Tokens_addLetter_9 rfl (by decide) rfl ?_
  show xw G m_Tokens_addLetter F L bc bs pr px 10 [some (.ref a0), some (.int x1), some (.int (f_starts_a0 count_a0.toNatClampNeg))] [] h
  refine x_iload_n d_Tokens_addLetter_10 rfl rfl ?_
  refine x_aload_n d_Tokens_addLetter_11 rfl rfl ?_
  refine x_get d_Tokens_addLetter_12 f_Tokens_7 e_a0 rfl ?_
  refine x_alen d_Tokens_addLetter_15 e_letters_a0 rfl ?_
  refine x_icmp_ge (tgt := 61) d_Tokens_addLetter_16 (by decide) (fun hc => ?_) (fun hc => ?_)
  · exact x_le (lv' := [none, none, none]) (xw_le_n (xw_le_n (xw_le_n xw_le_e))) (kt hc)
  · exact kf hc
theorem s_Tokens_addLetter_19 {G : xw_G} {F L bc bs : Nat} {pr : Option Value → xw_A → Prop} {px : String → xw_A → Prop} {h : xw_A} {a0 : Nat} {x1 : Int32} {x2 : Int32} {letters_a0 : Option Nat} {starts_a0 : Option Nat} {count_a0 : Int32} (e_a0 : h a0 = some (.inr (9, [va_rf letters_a0, va_rf starts_a0, .int count_a0]))) (kt : x1 < 65 → xw G m_Tokens_addLetter F L bc bs pr px 47 [some (.ref a0), some (.int x1), some (.int x2)] [.int x2, va_rf letters_a0] h) (kf : ¬ x1 < 65 → xw G m_Tokens_addLetter F L bc bs pr px 30 [some (.ref a0), some (.int x1), some (.int x2)] [.int x2, va_rf letters_a0] h) : xw G m_Tokens_addLetter F L bc bs pr px 19 [some (.ref a0), some (.int x1), some (.int x2)] [] h := by
  refine x_aload_n d_Tokens_addLetter_19 rfl rfl ?_
  refine x_get d_Tokens_addLetter_20 f_Tokens_7 e_a0 rfl ?_
  refine x_iload_n d_Tokens_addLetter_23 rfl rfl ?_
  refine x_iload_n d_Tokens_addLetter_24 rfl rfl ?_
  refine x_bipush (v := 65) d_Tokens_addLetter_25 (by decide) ?_
  refine x_icmp_lt (tgt := 47) d_Tokens_addLetter_27 (by decide) (fun hc => ?_) (fun hc => ?_)
  · exact kt hc
  · exact kf hc
theorem s_Tokens_addLetter_30 {G : xw_G} {F L bc bs : Nat} {pr : Option Value → xw_A → Prop} {px : String → xw_A → Prop} {h : xw_A} {a0 : Nat} {x1 : Int32} {x2 : Int32} {b1 : Nat}  (kt : 90 < x1 → xw G m_Tokens_addLetter F L bc bs pr px 47 [some (.ref a0), some (.int x1), some (.int x2)] [.int x2, .ref b1] h) (kf : ¬ 90 < x1 → xw G m_Tokens_addLetter F L bc bs pr px 36 [some (.ref a0), some (.int x1), some (.int x2)] [.int x2, .ref b1] h) : xw G m_Tokens_addLetter F L bc bs pr px 30 [some (.ref a0), some (.int x1), some (.int x2)] [.int x2, .ref b1] h := by
  refine x_iload_n d_Tokens_addLetter_30 rfl rfl ?_
  refine x_bipush (v := 90) d_Tokens_addLetter_31 (by decide) ?_
  refine x_icmp_gt (tgt := 47) d_Tokens_addLetter_33 (by decide) (fun hc => ?_) (fun hc => ?_)
  · exact kt hc
  · exact kf hc
theorem s_Tokens_addLetter_36 {G : xw_G} {F L bc bs : Nat} {pr : Option Value → xw_A → Prop} {px : String → xw_A → Prop} {h : xw_A} {a0 : Nat} {x1 : Int32} {x2 : Int32} {b1 : Nat}  (k : xw G m_Tokens_addLetter F L bc bs pr px 48 [some (.ref a0), none, some (.int x2)] [.int ((((x1 - 65) + 97).toUInt32 % 65536).toInt32), .int x2, .ref b1] h) : xw G m_Tokens_addLetter F L bc bs pr px 36 [some (.ref a0), some (.int x1), some (.int x2)] [.int x2, .ref b1] h := by
  refine x_iload_n d_Tokens_addLetter_36 rfl rfl ?_
  refine x_bipush (v := 65) d_Tokens_addLetter_37 (by decide) ?_
  refine x_isub d_Tokens_addLetter_39 ?_
  refine x_bipush (v := 97) d_Tokens_addLetter_40 (by decide) ?_
  refine x_iadd d_Tokens_addLetter_42 ?_
  refine x_i2c d_Tokens_addLetter_43 rfl ?_
  refine x_goto (tgt := 48) d_Tokens_addLetter_44 (by decide) ?_
  exact x_le (lv' := [some (.ref a0), none, some (.int x2)]) (xw_le_s (xw_le_n (xw_le_s xw_le_e))) (k)
theorem s_Tokens_addLetter_47 {G : xw_G} {F L bc bs : Nat} {pr : Option Value → xw_A → Prop} {px : String → xw_A → Prop} {h : xw_A} {a0 : Nat} {x1 : Int32} {x2 : Int32} {b1 : Nat}  (k : xw G m_Tokens_addLetter F L bc bs pr px 48 [some (.ref a0), none, some (.int x2)] [.int x1, .int x2, .ref b1] h) : xw G m_Tokens_addLetter F L bc bs pr px 47 [some (.ref a0), some (.int x1), some (.int x2)] [.int x2, .ref b1] h := by
  refine x_iload_n d_Tokens_addLetter_47 rfl rfl ?_
  exact x_le (lv' := [some (.ref a0), none, some (.int x2)]) (xw_le_s (xw_le_n (xw_le_s xw_le_e))) (k)
theorem s_Tokens_addLetter_48 {G : xw_G} {F L bc bs : Nat} {pr : Option Value → xw_A → Prop} {px : String → xw_A → Prop} {h : xw_A} {a0 : Nat} {x2 : Int32} {y0 : Int32} {b2 : Nat} {n_b2 : Nat} {f_b2 : Nat → Int32} {letters_a0 : Option Nat} {starts_a0 : Nat} {count_a0 : Int32} {n_starts_a0 : Nat} {f_starts_a0 : Nat → Int32} (e_b2 : h b2 = some (.inl (1, n_b2, .inl f_b2))) (i_48 : vp_in x2 n_b2) (e_a0 : h a0 = some (.inr (9, [va_rf letters_a0, .ref starts_a0, .int count_a0]))) (e_starts_a0 : h starts_a0 = some (.inl (0, n_starts_a0, .inl f_starts_a0))) (i_60 : vp_in count_a0 n_starts_a0) (k : xw G m_Tokens_addLetter F L bc bs pr px 61 [none, none, none] [] (xw_up (xw_up h b2 (.inl (1, n_b2, .inl (upd f_b2 (x2).toNatClampNeg (vp_nar .char y0))))) starts_a0 (.inl (0, n_starts_a0, .inl (upd f_starts_a0 (count_a0).toNatClampNeg (x2 + 1)))))) : xw G m_Tokens_addLetter F L bc bs pr px 48 [some (.ref a0), none, some (.int x2)] [.int y0, .int x2, .ref b2] h := by
  refine x_cast d_Tokens_addLetter_48 e_b2 i_48 ?_
  refine x_aload_n d_Tokens_addLetter_49 rfl rfl ?_
  refine x_get d_Tokens_addLetter_50 f_Tokens_13 ((xw_up_n _ _ (xw_ne e_a0 e_b2 (by simp))).trans e_a0) rfl ?_
  refine x_aload_n d_Tokens_addLetter_53 rfl rfl ?_
  refine x_get d_Tokens_addLetter_54 f_Tokens_23 ((xw_up_n _ _ (xw_ne e_a0 e_b2 (by simp))).trans e_a0) rfl ?_
  refine x_iload_n d_Tokens_addLetter_57 rfl rfl ?_
  refine x_iconst (v := 1) d_Tokens_addLetter_58 (by decide) ?_
  refine x_iadd d_Tokens_addLetter_59 ?_
  refine x_iast d_Tokens_addLetter_60 ((xw_up_n _ _ (xw_ne e_starts_a0 e_b2 (by simp))).trans e_starts_a0) i_60 ?_
  exact x_le (lv' := [none, none, none]) (xw_le_n (xw_le_n (xw_le_n xw_le_e))) (k)
theorem s_Tokens_addLetter_61 {G : xw_G} {F L bc bs : Nat} {pr : Option Value → xw_A → Prop} {px : String → xw_A → Prop} {h : xw_A}   (kr : pr none h) : xw G m_Tokens_addLetter F L bc bs pr px 61 [none, none, none] [] h := by
  exact x_vret d_Tokens_addLetter_61 rfl kr
theorem s_Tokens_different_0 {G : xw_G} {F L bc bs : Nat} {pr : Option Value → xw_A → Prop} {px : String → xw_A → Prop} {h : xw_A} {a0 : Nat}  (k : xw G m_Tokens_different F L bc bs pr px 4 [some (.ref a0), some (.int 0), some (.int 0)] [] h) : xw G m_Tokens_different F L bc bs pr px 0 [some (.ref a0), none, none] [] h := by
  refine x_iconst (v := 0) d_Tokens_different_0 (by decide) ?_
  refine x_istore_n d_Tokens_different_1 rfl (by decide) rfl ?_
  show xw G m_Tokens_different F L bc bs pr px 2 [some (.ref a0), some (.int 0), none] [] h
  refine x_iconst (v := 0) d_Tokens_different_2 (by decide) ?_
  refine x_istore_n d_Tokens_different_3 rfl (by decide) rfl ?_
  show xw G m_Tokens_different F L bc bs pr px 4 [some (.ref a0), some (.int 0), some (.int 0)] [] h
  exact k
theorem s_Tokens_different_4 {G : xw_G} {F L bc bs : Nat} {pr : Option Value → xw_A → Prop} {px : String → xw_A → Prop} {h : xw_A} {a0 : Nat} {x1 : Int32} {x2 : Int32} {letters_a0 : Option Nat} {starts_a0 : Option Nat} {count_a0 : Int32} (e_a0 : h a0 = some (.inr (9, [va_rf letters_a0, va_rf starts_a0, .int count_a0]))) (kt : count_a0 ≤ x2 → xw G m_Tokens_different F L bc bs pr px 29 [none, some (.int x1), none] [] h) (kf : ¬ count_a0 ≤ x2 → xw G m_Tokens_different F L bc bs pr px 12 [some (.ref a0), some (.int x1), some (.int x2)] [] h) : xw G m_Tokens_different F L bc bs pr px 4 [some (.ref a0), some (.int x1), some (.int x2)] [] h := by
  refine x_iload_n d_Tokens_different_4 rfl rfl ?_
  refine x_aload_n d_Tokens_different_5 rfl rfl ?_
  refine x_get d_Tokens_different_6 f_Tokens_23 e_a0 rfl ?_
  refine x_icmp_ge (tgt := 29) d_Tokens_different_9 (by decide) (fun hc => ?_) (fun hc => ?_)
  · exact x_le (lv' := [none, some (.int x1), none]) (xw_le_n (xw_le_s (xw_le_n xw_le_e))) (kt hc)
  · exact kf hc
theorem s_Tokens_different_12 {G : xw_G} {F L bc bs : Nat} {pr : Option Value → xw_A → Prop} {px : String → xw_A → Prop} {h : xw_A} {a0 : Nat} {x1 : Int32} {x2 : Int32}  (k : xw G m_Tokens_different F L bc bs pr px 14 [some (.ref a0), some (.int x1), some (.int x2)] [.int x2, .ref a0] h) : xw G m_Tokens_different F L bc bs pr px 12 [some (.ref a0), some (.int x1), some (.int x2)] [] h := by
  refine x_aload_n d_Tokens_different_12 rfl rfl ?_
  refine x_iload_n d_Tokens_different_13 rfl rfl ?_
  exact k
theorem s_Tokens_different_17 {G : xw_G} {F L bc bs : Nat} {pr : Option Value → xw_A → Prop} {px : String → xw_A → Prop} {h : xw_A} {a0 : Nat} {x1 : Int32} {x2 : Int32} {y0 : Int32}  (kt : ¬ y0 = 0 → xw G m_Tokens_different F L bc bs pr px 23 [some (.ref a0), some (.int x1), some (.int x2)] [] h) (kf : y0 = 0 → xw G m_Tokens_different F L bc bs pr px 20 [some (.ref a0), some (.int x1), some (.int x2)] [] h) : xw G m_Tokens_different F L bc bs pr px 17 [some (.ref a0), some (.int x1), some (.int x2)] [.int y0] h := by
  refine x_if_ne (tgt := 23) d_Tokens_different_17 (by decide) (fun hc => ?_) (fun hc => ?_)
  · exact kt hc
  · exact kf hc
theorem s_Tokens_different_20 {G : xw_G} {F L bc bs : Nat} {pr : Option Value → xw_A → Prop} {px : String → xw_A → Prop} {h : xw_A} {a0 : Nat} {x1 : Int32} {x2 : Int32}  (k : xw G m_Tokens_different F L bc bs pr px 23 [some (.ref a0), some (.int (x1 + 1)), some (.int x2)] [] h) : xw G m_Tokens_different F L bc bs pr px 20 [some (.ref a0), some (.int x1), some (.int x2)] [] h := by
  refine x_iinc (v := x1 + 1) d_Tokens_different_20 rfl (by rfl) (by decide) rfl ?_
  show xw G m_Tokens_different F L bc bs pr px 23 [some (.ref a0), some (.int (x1 + 1)), some (.int x2)] [] h
  exact k
theorem s_Tokens_different_23 {G : xw_G} {F L bc bs : Nat} {pr : Option Value → xw_A → Prop} {px : String → xw_A → Prop} {h : xw_A} {a0 : Nat} {x1 : Int32} {x2 : Int32}  (k : xw G m_Tokens_different F L bc bs pr px 4 [some (.ref a0), some (.int x1), some (.int (x2 + 1))] [] h) : xw G m_Tokens_different F L bc bs pr px 23 [some (.ref a0), some (.int x1), some (.int x2)] [] h := by
  refine x_iinc (v := x2 + 1) d_Tokens_different_23 rfl (by rfl) (by decide) rfl ?_
  show xw G m_Tokens_different F L bc bs pr px 26 [some (.ref a0), some (.int x1), some (.int (x2 + 1))] [] h
  refine x_goto (tgt := 4) d_Tokens_different_26 (by decide) ?_
  exact k
theorem s_Tokens_different_29 {G : xw_G} {F L bc bs : Nat} {pr : Option Value → xw_A → Prop} {px : String → xw_A → Prop} {h : xw_A} {x1 : Int32}  (kr : pr (some (.int x1)) h) : xw G m_Tokens_different F L bc bs pr px 29 [none, some (.int x1), none] [] h := by
  refine x_iload_n d_Tokens_different_29 rfl rfl ?_
  exact x_iret d_Tokens_different_30 rfl kr
theorem s_Tokens_isEarlier_0 {G : xw_G} {F L bc bs : Nat} {pr : Option Value → xw_A → Prop} {px : String → xw_A → Prop} {h : xw_A} {a0 : Nat} {x1 : Int32}  (k : xw G m_Tokens_isEarlier F L bc bs pr px 2 [some (.ref a0), some (.int x1), some (.int 0)] [] h) : xw G m_Tokens_isEarlier F L bc bs pr px 0 [some (.ref a0), some (.int x1), none] [] h := by
  refine x_iconst (v := 0) d_Tokens_isEarlier_0 (by decide) ?_
  refine x_istore_n d_Tokens_isEarlier_1 rfl (by decide) rfl ?_
  show xw G m_Tokens_isEarlier F L bc bs pr px 2 [some (.ref a0), some (.int x1), some (.int 0)] [] h
  exact k
theorem s_Tokens_isEarlier_2 {G : xw_G} {F L bc bs : Nat} {pr : Option Value → xw_A → Prop} {px : String → xw_A → Prop} {h : xw_A} {a0 : Nat} {x1 : Int32} {x2 : Int32}  (kt : x1 ≤ x2 → xw G m_Tokens_isEarlier F L bc bs pr px 26 [none, none, none] [] h) (kf : ¬ x1 ≤ x2 → xw G m_Tokens_isEarlier F L bc bs pr px 7 [some (.ref a0), some (.int x1), some (.int x2)] [] h) : xw G m_Tokens_isEarlier F L bc bs pr px 2 [some (.ref a0), some (.int x1), some (.int x2)] [] h := by
  refine x_iload_n d_Tokens_isEarlier_2 rfl rfl ?_
  refine x_iload_n d_Tokens_isEarlier_3 rfl rfl ?_
  refine x_icmp_ge (tgt := 26) d_Tokens_isEarlier_4 (by decide) (fun hc => ?_) (fun hc => ?_)
  · exact x_le (lv' := [none, none, none]) (xw_le_n (xw_le_n (xw_le_n xw_le_e))) (kt hc)
  · exact kf hc
theorem s_Tokens_isEarlier_7 {G : xw_G} {F L bc bs : Nat} {pr : Option Value → xw_A → Prop} {px : String → xw_A → Prop} {h : xw_A} {a0 : Nat} {x1 : Int32} {x2 : Int32}  (k : xw G m_Tokens_isEarlier F L bc bs pr px 12 [some (.ref a0), some (.int x1), some (.int x2)] [.int 0, .int x2, .ref a0, .int x1, .ref a0] h) : xw G m_Tokens_isEarlier F L bc bs pr px 7 [some (.ref a0), some (.int x1), some (.int x2)] [] h := by
  refine x_aload_n d_Tokens_isEarlier_7 rfl rfl ?_
  refine x_iload_n d_Tokens_isEarlier_8 rfl rfl ?_
  refine x_aload_n d_Tokens_isEarlier_9 rfl rfl ?_
  refine x_iload_n d_Tokens_isEarlier_10 rfl rfl ?_
  refine x_iconst (v := 0) d_Tokens_isEarlier_11 (by decide) ?_
  exact k
theorem s_Tokens_isEarlier_15 {G : xw_G} {F L bc bs : Nat} {pr : Option Value → xw_A → Prop} {px : String → xw_A → Prop} {h : xw_A} {a0 : Nat} {x1 : Int32} {x2 : Int32} {y0 : Int32}  (kt : y0 = 0 → xw G m_Tokens_isEarlier F L bc bs pr px 20 [some (.ref a0), some (.int x1), some (.int x2)] [] h) (kf : ¬ y0 = 0 → xw G m_Tokens_isEarlier F L bc bs pr px 18 [none, none, none] [] h) : xw G m_Tokens_isEarlier F L bc bs pr px 15 [some (.ref a0), some (.int x1), some (.int x2)] [.int y0] h := by
  refine x_if_eq (tgt := 20) d_Tokens_isEarlier_15 (by decide) (fun hc => ?_) (fun hc => ?_)
  · exact kt hc
  · exact x_le (lv' := [none, none, none]) (xw_le_n (xw_le_n (xw_le_n xw_le_e))) (kf hc)
theorem s_Tokens_isEarlier_18 {G : xw_G} {F L bc bs : Nat} {pr : Option Value → xw_A → Prop} {px : String → xw_A → Prop} {h : xw_A}   (kr : pr (some (.int 1)) h) : xw G m_Tokens_isEarlier F L bc bs pr px 18 [none, none, none] [] h := by
  refine x_iconst (v := 1) d_Tokens_isEarlier_18 (by decide) ?_
  exact x_zret d_Tokens_isEarlier_19 rfl rfl kr
theorem s_Tokens_isEarlier_20 {G : xw_G} {F L bc bs : Nat} {pr : Option Value → xw_A → Prop} {px : String → xw_A → Prop} {h : xw_A} {a0 : Nat} {x1 : Int32} {x2 : Int32}  (k : xw G m_Tokens_isEarlier F L bc bs pr px 2 [some (.ref a0), some (.int x1), some (.int (x2 + 1))] [] h) : xw G m_Tokens_isEarlier F L bc bs pr px 20 [some (.ref a0), some (.int x1), some (.int x2)] [] h := by
  refine x_iinc (v := x2 + 1) d_Tokens_isEarlier_20 rfl (by rfl) (by decide) rfl ?_
  show xw G m_Tokens_isEarlier F L bc bs pr px 23 [some (.ref a0), some (.int x1), some (.int (x2 + 1))] [] h
  refine x_goto (tgt := 2) d_Tokens_isEarlier_23 (by decide) ?_
  exact k
theorem s_Tokens_isEarlier_26 {G : xw_G} {F L bc bs : Nat} {pr : Option Value → xw_A → Prop} {px : String → xw_A → Prop} {h : xw_A}   (kr : pr (some (.int 0)) h) : xw G m_Tokens_isEarlier F L bc bs pr px 26 [none, none, none] [] h := by
  refine x_iconst (v := 0) d_Tokens_isEarlier_26 (by decide) ?_
  exact x_zret d_Tokens_isEarlier_27 rfl rfl kr
theorem s_Tokens_fits_0 {G : xw_G} {F L bc bs : Nat} {pr : Option Value → xw_A → Prop} {px : String → xw_A → Prop} {h : xw_A} {a0 : Nat} {x1 : Int32} {a2 : Nat} {x3 : Int32} {x4 : Int32}  (k : xw G m_Tokens_fits F L bc bs pr px 2 [some (.ref a0), some (.int x1), some (.ref a2), some (.int x3), some (.int x4), none, none, none] [.int x1, .ref a0] h) : xw G m_Tokens_fits F L bc bs pr px 0 [some (.ref a0), some (.int x1), some (.ref a2), some (.int x3), some (.int x4), none, none, none] [] h := by
  refine x_aload_n d_Tokens_fits_0 rfl rfl ?_
  refine x_iload_n d_Tokens_fits_1 rfl rfl ?_
  exact k
theorem s_Tokens_fits_5 {G : xw_G} {F L bc bs : Nat} {pr : Option Value → xw_A → Prop} {px : String → xw_A → Prop} {h : xw_A} {a0 : Nat} {x1 : Int32} {a2 : Nat} {x3 : Int32} {x4 : Int32} {y0 : Int32}  (k : xw G m_Tokens_fits F L bc bs pr px 9 [some (.ref a0), some (.int x1), some (.ref a2), some (.int x3), some (.int x4), some (.int y0), none, none] [.int x3, .ref a2] h) : xw G m_Tokens_fits F L bc bs pr px 5 [some (.ref a0), some (.int x1), some (.ref a2), some (.int x3), some (.int x4), none, none, none] [.int y0] h := by
  refine x_istore d_Tokens_fits_5 (by decide) rfl ?_
  show xw G m_Tokens_fits F L bc bs pr px 7 [some (.ref a0), some (.int x1), some (.ref a2), some (.int x3), some (.int x4), some (.int y0), none, none] [] h
  refine x_aload_n d_Tokens_fits_7 rfl rfl ?_
  refine x_iload_n d_Tokens_fits_8 rfl rfl ?_
  exact k
theorem s_Tokens_fits_12 {G : xw_G} {F L bc bs : Nat} {pr : Option Value → xw_A → Prop} {px : String → xw_A → Prop} {h : xw_A} {a0 : Nat} {x1 : Int32} {a2 : Nat} {x3 : Int32} {x4 : Int32} {x5 : Int32} {y0 : Int32}  (kt : y0 < x5 → xw G m_Tokens_fits F L bc bs pr px 33 [none, none, none, none, none, none, none, none] [] h) (kf : ¬ y0 < x5 → xw G m_Tokens_fits F L bc bs pr px 21 [some (.ref a0), some (.int x1), some (.ref a2), some (.int x3), some (.int x4), some (.int x5), some (.int y0), none] [] h) : xw G m_Tokens_fits F L bc bs pr px 12 [some (.ref a0), some (.int x1), some (.ref a2), some (.int x3), some (.int x4), some (.int x5), none, none] [.int y0] h := by
  refine x_istore d_Tokens_fits_12 (by decide) rfl ?_
  show xw G m_Tokens_fits F L bc bs pr px 14 [some (.ref a0), some (.int x1), some (.ref a2), some (.int x3), some (.int x4), some (.int x5), some (.int y0), none] [] h
  refine x_iload d_Tokens_fits_14 rfl ?_
  refine x_iload d_Tokens_fits_16 rfl ?_
  refine x_icmp_gt (tgt := 33) d_Tokens_fits_18 (by decide) (fun hc => ?_) (fun hc => ?_)
  · exact x_le (lv' := [none, none, none, none, none, none, none, none]) (xw_le_n (xw_le_n (xw_le_n (xw_le_n (xw_le_n (xw_le_n (xw_le_n (xw_le_n xw_le_e)))))))) (kt hc)
  · exact kf hc
theorem s_Tokens_fits_21 {G : xw_G} {F L bc bs : Nat} {pr : Option Value → xw_A → Prop} {px : String → xw_A → Prop} {h : xw_A} {a0 : Nat} {x1 : Int32} {a2 : Nat} {x3 : Int32} {x4 : Int32} {x5 : Int32} {x6 : Int32}  (kt : x6 ≤ x5 → xw G m_Tokens_fits F L bc bs pr px 35 [some (.ref a0), some (.int x1), some (.ref a2), some (.int x3), none, some (.int x5), none, none] [] h) (kf : ¬ x6 ≤ x5 → xw G m_Tokens_fits F L bc bs pr px 28 [some (.ref a0), some (.int x1), some (.ref a2), some (.int x3), some (.int x4), some (.int x5), none, none] [] h) : xw G m_Tokens_fits F L bc bs pr px 21 [some (.ref a0), some (.int x1), some (.ref a2), some (.int x3), some (.int x4), some (.int x5), some (.int x6), none] [] h := by
  refine x_iload d_Tokens_fits_21 rfl ?_
  refine x_iload d_Tokens_fits_23 rfl ?_
  refine x_icmp_ge (tgt := 35) d_Tokens_fits_25 (by decide) (fun hc => ?_) (fun hc => ?_)
  · exact x_le (lv' := [some (.ref a0), some (.int x1), some (.ref a2), some (.int x3), none, some (.int x5), none, none]) (xw_le_s (xw_le_s (xw_le_s (xw_le_s (xw_le_n (xw_le_s (xw_le_n (xw_le_n xw_le_e)))))))) (kt hc)
  · exact x_le (lv' := [some (.ref a0), some (.int x1), some (.ref a2), some (.int x3), some (.int x4), some (.int x5), none, none]) (xw_le_s (xw_le_s (xw_le_s (xw_le_s (xw_le_s (xw_le_s (xw_le_n (xw_le_n xw_le_e)))))))) (kf hc)
theorem s_Tokens_fits_28 {G : xw_G} {F L bc bs : Nat} {pr : Option Value → xw_A → Prop} {px : String → xw_A → Prop} {h : xw_A} {a0 : Nat} {x1 : Int32} {a2 : Nat} {x3 : Int32} {x4 : Int32} {x5 : Int32}  (kt : ¬ x4 = 0 → xw G m_Tokens_fits F L bc bs pr px 35 [some (.ref a0), some (.int x1), some (.ref a2), some (.int x3), none, some (.int x5), none, none] [] h) (kf : x4 = 0 → xw G m_Tokens_fits F L bc bs pr px 33 [none, none, none, none, none, none, none, none] [] h) : xw G m_Tokens_fits F L bc bs pr px 28 [some (.ref a0), some (.int x1), some (.ref a2), some (.int x3), some (.int x4), some (.int x5), none, none] [] h := by
  refine x_iload d_Tokens_fits_28 rfl ?_
  refine x_if_ne (tgt := 35) d_Tokens_fits_30 (by decide) (fun hc => ?_) (fun hc => ?_)
  · exact x_le (lv' := [some (.ref a0), some (.int x1), some (.ref a2), some (.int x3), none, some (.int x5), none, none]) (xw_le_s (xw_le_s (xw_le_s (xw_le_s (xw_le_n (xw_le_s (xw_le_n (xw_le_n xw_le_e)))))))) (kt hc)
  · exact x_le (lv' := [none, none, none, none, none, none, none, none]) (xw_le_n (xw_le_n (xw_le_n (xw_le_n (xw_le_n (xw_le_n (xw_le_n (xw_le_n xw_le_e)))))))) (kf hc)
theorem s_Tokens_fits_33 {G : xw_G} {F L bc bs : Nat} {pr : Option Value → xw_A → Prop} {px : String → xw_A → Prop} {h : xw_A}   (kr : pr (some (.int 0)) h) : xw G m_Tokens_fits F L bc bs pr px 33 [none, none, none, none, none, none, none, none] [] h := by
  refine x_iconst (v := 0) d_Tokens_fits_33 (by decide) ?_
  exact x_zret d_Tokens_fits_34 rfl rfl kr
theorem s_Tokens_fits_35 {G : xw_G} {F L bc bs : Nat} {pr : Option Value → xw_A → Prop} {px : String → xw_A → Prop} {h : xw_A} {a0 : Nat} {x1 : Int32} {a2 : Nat} {x3 : Int32} {x5 : Int32}  (k : xw G m_Tokens_fits F L bc bs pr px 38 [some (.ref a0), some (.int x1), some (.ref a2), some (.int x3), none, some (.int x5), none, some (.int 0)] [] h) : xw G m_Tokens_fits F L bc bs pr px 35 [some (.ref a0), some (.int x1), some (.ref a2), some (.int x3), none, some (.int x5), none, none] [] h := by
  refine x_iconst (v := 0) d_Tokens_fits_35 (by decide) ?_
  refine x_istore d_Tokens_fits_36 (by decide) trivial ?_
  show xw G m_Tokens_fits F L bc bs pr px 38 [some (.ref a0), some (.int x1), some (.ref a2), some (.int x3), none, some (.int x5), none, some (.int 0)] [] h
  exact k
theorem s_Tokens_fits_38 {G : xw_G} {F L bc bs : Nat} {pr : Option Value → xw_A → Prop} {px : String → xw_A → Prop} {h : xw_A} {a0 : Nat} {x1 : Int32} {a2 : Nat} {x3 : Int32} {x5 : Int32} {x7 : Int32}  (kt : x5 ≤ x7 → xw G m_Tokens_fits F L bc bs pr px 84 [none, none, none, none, none, none, none, none] [] h) (kf : ¬ x5 ≤ x7 → xw G m_Tokens_fits F L bc bs pr px 45 [some (.ref a0), some (.int x1), some (.ref a2), some (.int x3), none, some (.int x5), none, some (.int x7)] [] h) : xw G m_Tokens_fits F L bc bs pr px 38 [some (.ref a0), some (.int x1), some (.ref a2), some (.int x3), none, some (.int x5), none, some (.int x7)] [] h := by
  refine x_iload d_Tokens_fits_38 rfl ?_
  refine x_iload d_Tokens_fits_40 rfl ?_
  refine x_icmp_ge (tgt := 84) d_Tokens_fits_42 (by decide) (fun hc => ?_) (fun hc => ?_)
  · exact x_le (lv' := [none, none, none, none, none, none, none, none]) (xw_le_n (xw_le_n (xw_le_n (xw_le_n (xw_le_n (xw_le_n (xw_le_n (xw_le_n xw_le_e)))))))) (kt hc)
  · exact kf hc
theorem s_Tokens_fits_45 {G : xw_G} {F L bc bs : Nat} {pr : Option Value → xw_A → Prop} {px : String → xw_A → Prop} {h : xw_A} {a0 : Nat} {x1 : Int32} {a2 : Nat} {x3 : Int32} {x5 : Int32} {x7 : Int32} {letters_a0 : Nat} {starts_a0 : Nat} {count_a0 : Int32} {n_starts_a0 : Nat} {f_starts_a0 : Nat → Int32} {n_letters_a0 : Nat} {f_letters_a0 : Nat → Int32} {letters_a2 : Nat} {starts_a2 : Nat} {count_a2 : Int32} {n_starts_a2 : Nat} {f_starts_a2 : Nat → Int32} {n_letters_a2 : Nat} {f_letters_a2 : Nat → Int32} (e_a0 : h a0 = some (.inr (9, [.ref letters_a0, .ref starts_a0, .int count_a0]))) (e_starts_a0 : h starts_a0 = some (.inl (0, n_starts_a0, .inl f_starts_a0))) (i_54 : vp_in x1 n_starts_a0) (e_letters_a0 : h letters_a0 = some (.inl (1, n_letters_a0, .inl f_letters_a0))) (i_58 : vp_in ((f_starts_a0 x1.toNatClampNeg) + x7) n_letters_a0) (e_a2 : h a2 = some (.inr (9, [.ref letters_a2, .ref starts_a2, .int count_a2]))) (e_starts_a2 : h starts_a2 = some (.inl (0, n_starts_a2, .inl f_starts_a2))) (i_68 : vp_in x3 n_starts_a2) (e_letters_a2 : h letters_a2 = some (.inl (1, n_letters_a2, .inl f_letters_a2))) (i_72 : vp_in ((f_starts_a2 x3.toNatClampNeg) + x7) n_letters_a2) (kt : (f_letters_a0 ((f_starts_a0 x1.toNatClampNeg) + x7).toNatClampNeg) = (f_letters_a2 ((f_starts_a2 x3.toNatClampNeg) + x7).toNatClampNeg) → xw G m_Tokens_fits F L bc bs pr px 78 [some (.ref a0), some (.int x1), some (.ref a2), some (.int x3), none, some (.int x5), none, some (.int x7)] [] h) (kf : ¬ (f_letters_a0 ((f_starts_a0 x1.toNatClampNeg) + x7).toNatClampNeg) = (f_letters_a2 ((f_starts_a2 x3.toNatClampNeg) + x7).toNatClampNeg) → xw G m_Tokens_fits F L bc bs pr px 76 [none, none, none, none, none, none, none, none] [] h) : xw G m_Tokens_fits F L bc bs pr px 45 [some (.ref a0), some (.int x1), some (.ref a2), some (.int x3), none, some (.int x5), none, some (.int x7)] [] h := by
  refine x_aload_n d_Tokens_fits_45 rfl rfl ?_
  refine x_get d_Tokens_fits_46 f_Tokens_7 e_a0 rfl ?_
  refine x_aload_n d_Tokens_fits_49 rfl rfl ?_
  refine x_get d_Tokens_fits_50 f_Tokens_13 e_a0 rfl ?_
  refine x_iload_n d_Tokens_fits_53 rfl rfl ?_
  refine x_iald d_Tokens_fits_54 e_starts_a0 i_54 ?_
  refine x_iload d_Tokens_fits_55 rfl ?_
  refine x_iadd d_Tokens_fits_57 ?_
  refine x_cald d_Tokens_fits_58 e_letters_a0 i_58 ?_
  refine x_aload_n d_Tokens_fits_59 rfl rfl ?_
  refine x_get d_Tokens_fits_60 f_Tokens_7 e_a2 rfl ?_
  refine x_aload_n d_Tokens_fits_63 rfl rfl ?_
  refine x_get d_Tokens_fits_64 f_Tokens_13 e_a2 rfl ?_
  refine x_iload_n d_Tokens_fits_67 rfl rfl ?_
  refine x_iald d_Tokens_fits_68 e_starts_a2 i_68 ?_
  refine x_iload d_Tokens_fits_69 rfl ?_
  refine x_iadd d_Tokens_fits_71 ?_
  refine x_cald d_Tokens_fits_72 e_letters_a2 i_72 ?_
  refine x_icmp_eq (tgt := 78) d_Tokens_fits_73 (by decide) (fun hc => ?_) (fun hc => ?_)
  · exact kt hc
  · exact x_le (lv' := [none, none, none, none, none, none, none, none]) (xw_le_n (xw_le_n (xw_le_n (xw_le_n (xw_le_n (xw_le_n (xw_le_n (xw_le_n xw_le_e)))))))) (kf hc)
theorem s_Tokens_fits_76 {G : xw_G} {F L bc bs : Nat} {pr : Option Value → xw_A → Prop} {px : String → xw_A → Prop} {h : xw_A}   (kr : pr (some (.int 0)) h) : xw G m_Tokens_fits F L bc bs pr px 76 [none, none, none, none, none, none, none, none] [] h := by
  refine x_iconst (v := 0) d_Tokens_fits_76 (by decide) ?_
  exact x_zret d_Tokens_fits_77 rfl rfl kr
theorem s_Tokens_fits_78 {G : xw_G} {F L bc bs : Nat} {pr : Option Value → xw_A → Prop} {px : String → xw_A → Prop} {h : xw_A} {a0 : Nat} {x1 : Int32} {a2 : Nat} {x3 : Int32} {x5 : Int32} {x7 : Int32}  (k : xw G m_Tokens_fits F L bc bs pr px 38 [some (.ref a0), some (.int x1), some (.ref a2), some (.int x3), none, some (.int x5), none, some (.int (x7 + 1))] [] h) : xw G m_Tokens_fits F L bc bs pr px 78 [some (.ref a0), some (.int x1), some (.ref a2), some (.int x3), none, some (.int x5), none, some (.int x7)] [] h := by
  refine x_iinc (v := x7 + 1) d_Tokens_fits_78 rfl (by rfl) (by decide) trivial ?_
  show xw G m_Tokens_fits F L bc bs pr px 81 [some (.ref a0), some (.int x1), some (.ref a2), some (.int x3), none, some (.int x5), none, some (.int (x7 + 1))] [] h
  refine x_goto (tgt := 38) d_Tokens_fits_81 (by decide) ?_
  exact k
theorem s_Tokens_fits_84 {G : xw_G} {F L bc bs : Nat} {pr : Option Value → xw_A → Prop} {px : String → xw_A → Prop} {h : xw_A}   (kr : pr (some (.int 1)) h) : xw G m_Tokens_fits F L bc bs pr px 84 [none, none, none, none, none, none, none, none] [] h := by
  refine x_iconst (v := 1) d_Tokens_fits_84 (by decide) ?_
  exact x_zret d_Tokens_fits_85 rfl rfl kr
theorem s_Tokens_lengthOf_0 {G : xw_G} {F L bc bs : Nat} {pr : Option Value → xw_A → Prop} {px : String → xw_A → Prop} {h : xw_A} {a0 : Nat} {x1 : Int32} {letters_a0 : Option Nat} {starts_a0 : Nat} {count_a0 : Int32} {n_starts_a0 : Nat} {f_starts_a0 : Nat → Int32} (e_a0 : h a0 = some (.inr (9, [va_rf letters_a0, .ref starts_a0, .int count_a0]))) (e_starts_a0 : h starts_a0 = some (.inl (0, n_starts_a0, .inl f_starts_a0))) (i_7 : vp_in (x1 + 1) n_starts_a0) (i_13 : vp_in x1 n_starts_a0) (kr : pr (some (.int ((f_starts_a0 (x1 + 1).toNatClampNeg) - (f_starts_a0 x1.toNatClampNeg)))) h) : xw G m_Tokens_lengthOf F L bc bs pr px 0 [some (.ref a0), some (.int x1)] [] h := by
  refine x_aload_n d_Tokens_lengthOf_0 rfl rfl ?_
  refine x_get d_Tokens_lengthOf_1 f_Tokens_13 e_a0 rfl ?_
  refine x_iload_n d_Tokens_lengthOf_4 rfl rfl ?_
  refine x_iconst (v := 1) d_Tokens_lengthOf_5 (by decide) ?_
  refine x_iadd d_Tokens_lengthOf_6 ?_
  refine x_iald d_Tokens_lengthOf_7 e_starts_a0 i_7 ?_
  refine x_aload_n d_Tokens_lengthOf_8 rfl rfl ?_
  refine x_get d_Tokens_lengthOf_9 f_Tokens_13 e_a0 rfl ?_
  refine x_iload_n d_Tokens_lengthOf_12 rfl rfl ?_
  refine x_iald d_Tokens_lengthOf_13 e_starts_a0 i_13 ?_
  refine x_isub d_Tokens_lengthOf_14 ?_
  exact x_iret d_Tokens_lengthOf_15 rfl kr
