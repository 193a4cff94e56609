/-! blocks of Segment: by program -/
theorem s_Segment_init_0 {G : xw_G} {F L bc bs : Nat} {pr : Option Value → xw_A → Prop} {px : String → xw_A → Prop} {h : xw_A} {a0 : Nat} {x1 : Int32} {a2 : Nat} {x3 : Int32} {level_a0 : Int32} {versions_a0 : Option Nat} {entries_a0 : Int32} (r_1 : 1 ≤ F ∧ 0 + 12 ≤ L) (e_a0 : h a0 = some (.inr (6, [.int level_a0, va_rf versions_a0, .int entries_a0]))) (l_11 : ¬ x3 < 0) (u_11 : 1 ≤ bc ∧ x3.toNatClampNeg ≤ bs) (l_11b : x3.toNatClampNeg * 4 ≤ 536870912) (k : ∀ q11 : Nat, (xw_up h a0 (.inr (6, [.int x1, va_rf versions_a0, .int entries_a0]))) q11 = none → xw G m_Segment_init F L (bc - 1) (bs - x3.toNatClampNeg) pr px 23 [some (.ref a0), none, some (.ref a2), some (.int x3), some (.int 0), some (.int 0)] [] (xw_up (xw_up (xw_up h a0 (.inr (6, [.int x1, va_rf versions_a0, .int entries_a0]))) q11 (.inl (10 + 6, (x3.toNatClampNeg), .inr (.inr (.inr (.inr ((fun _ => none)))))))) a0 (.inr (6, [.int x1, .ref q11, .int entries_a0])))) : xw G m_Segment_init F L bc bs pr px 0 [some (.ref a0), some (.int x1), some (.ref a2), some (.int x3), none, none] [] h := by
  refine x_aload_n d_Segment_init_0 rfl rfl ?_
  refine x_objInit d_Segment_init_1 oi_Segment r_1.1 (by simpa [Value.category] using r_1.2) ?_
  refine x_aload_n d_Segment_init_4 rfl rfl ?_
  refine x_iload_n d_Segment_init_5 rfl rfl ?_
  refine x_putF (ty := .int) d_Segment_init_6 f_Segment_7 fw_Segment_0.1 rfl rfl fw_Segment_0.2 rfl rfl (Nat.le_of_ble_eq_true rfl) e_a0 ?_
  show xw G m_Segment_init F L bc bs pr px 9 [some (.ref a0), some (.int x1), some (.ref a2), some (.int x3), none, none] [] (xw_up h a0 (.inr (6, [.int x1, va_rf versions_a0, .int entries_a0])))
  refine x_aload_n d_Segment_init_9 rfl rfl ?_
  refine x_iload_n d_Segment_init_10 rfl rfl ?_
  refine x_anew (ci := 10) (N := x3.toNatClampNeg) d_Segment_init_11 (by decide) an_Segment_13 ao_Version l_11 rfl l_11b u_11 (fun q11 hq11 => ?_)
  show xw G m_Segment_init F L (bc - 1) (bs - x3.toNatClampNeg) pr px 14 [some (.ref a0), some (.int x1), some (.ref a2), some (.int x3), none, none] [.ref q11, .ref a0] (xw_up (xw_up h a0 (.inr (6, [.int x1, va_rf versions_a0, .int entries_a0]))) q11 (.inl (10 + 6, (x3.toNatClampNeg), .inr (.inr (.inr (.inr ((fun _ => none))))))))
  refine x_putF (ty := (.array (.object "PhraseShelf$Version"))) d_Segment_init_14 f_Segment_15 fw_Segment_1.1 rfl rfl fw_Segment_1.2 rfl rfl (Nat.le_of_ble_eq_true rfl) ((xw_up_n _ _ (xw_neN (xw_up_s _ _ _) hq11)).trans (xw_up_s _ _ _)) ?_
  show xw G m_Segment_init F L (bc - 1) (bs - x3.toNatClampNeg) pr px 17 [some (.ref a0), some (.int x1), some (.ref a2), some (.int x3), none, none] [] (xw_up (xw_up (xw_up h a0 (.inr (6, [.int x1, va_rf versions_a0, .int entries_a0]))) q11 (.inl (10 + 6, (x3.toNatClampNeg), .inr (.inr (.inr (.inr ((fun _ => none)))))))) a0 (.inr (6, [.int x1, .ref q11, .int entries_a0])))
  refine x_iconst (v := 0) d_Segment_init_17 (by decide) ?_
  refine x_istore d_Segment_init_18 (by decide) rfl ?_
  show xw G m_Segment_init F L (bc - 1) (bs - x3.toNatClampNeg) pr px 20 [some (.ref a0), some (.int x1), some (.ref a2), some (.int x3), some (.int 0), none] [] (xw_up (xw_up (xw_up h a0 (.inr (6, [.int x1, va_rf versions_a0, .int entries_a0]))) q11 (.inl (10 + 6, (x3.toNatClampNeg), .inr (.inr (.inr (.inr ((fun _ => none)))))))) a0 (.inr (6, [.int x1, .ref q11, .int entries_a0])))
  refine x_iconst (v := 0) d_Segment_init_20 (by decide) ?_
  refine x_istore d_Segment_init_21 (by decide) rfl ?_
  show xw G m_Segment_init F L (bc - 1) (bs - x3.toNatClampNeg) pr px 23 [some (.ref a0), some (.int x1), some (.ref a2), some (.int x3), some (.int 0), some (.int 0)] [] (xw_up (xw_up (xw_up h a0 (.inr (6, [.int x1, va_rf versions_a0, .int entries_a0]))) q11 (.inl (10 + 6, (x3.toNatClampNeg), .inr (.inr (.inr (.inr ((fun _ => none)))))))) a0 (.inr (6, [.int x1, .ref q11, .int entries_a0])))
  exact x_le (lv' := [some (.ref a0), none, some (.ref a2), some (.int x3), some (.int 0), some (.int 0)]) (xw_le_s (xw_le_n (xw_le_s (xw_le_s (xw_le_s (xw_le_s xw_le_e)))))) ((k q11 hq11))
theorem s_Segment_init_23 {G : xw_G} {F L bc bs : Nat} {pr : Option Value → xw_A → Prop} {px : String → xw_A → Prop} {h : xw_A} {a0 : Nat} {a2 : Nat} {x3 : Int32} {x4 : Int32} {x5 : Int32}  (kt : x3 ≤ x5 → xw G m_Segment_init F L bc bs pr px 58 [some (.ref a0), none, none, none, some (.int x4), none] [] h) (kf : ¬ x3 ≤ x5 → xw G m_Segment_init F L bc bs pr px 29 [some (.ref a0), none, some (.ref a2), some (.int x3), some (.int x4), some (.int x5)] [] h) : xw G m_Segment_init F L bc bs pr px 23 [some (.ref a0), none, some (.ref a2), some (.int x3), some (.int x4), some (.int x5)] [] h := by
  refine x_iload d_Segment_init_23 rfl ?_
  refine x_iload_n d_Segment_init_25 rfl rfl ?_
  refine x_icmp_ge (tgt := 58) d_Segment_init_26 (by decide) (fun hc => ?_) (fun hc => ?_)
  · exact x_le (lv' := [some (.ref a0), none, none, none, some (.int x4), none]) (xw_le_s (xw_le_n (xw_le_n (xw_le_n (xw_le_s (xw_le_n xw_le_e)))))) (kt hc)
  · exact kf hc
theorem s_Segment_init_29 {G : xw_G} {F L bc bs : Nat} {pr : Option Value → xw_A → Prop} {px : String → xw_A → Prop} {h : xw_A} {a0 : Nat} {a2 : Nat} {x3 : Int32} {x4 : Int32} {x5 : Int32} {level_a0 : Int32} {versions_a0 : Nat} {entries_a0 : Int32} {n_a2 : Nat} {f_a2 : Nat → Option Nat} {g38 : Nat} {n_versions_a0 : Nat} {f_versions_a0 : Nat → Option Nat} {number_g38 : Int32} {row_g38 : Int32} {first_g38 : Option Nat} {second_g38 : Option Nat} {entries_g38 : Int32} {g45 : Nat} {number_g45 : Int32} {row_g45 : Int32} {first_g45 : Option Nat} {second_g45 : Option Nat} {entries_g45 : Int32} (e_a0 : h a0 = some (.inr (6, [.int level_a0, .ref versions_a0, .int entries_a0]))) (e_a2 : h a2 = some (.inl (10 + 6, n_a2, .inr (.inr (.inr (.inr f_a2)))))) (i_38 : vp_in x5 n_a2) (g_38 : f_a2 x5.toNatClampNeg = some g38) (e_versions_a0 : h versions_a0 = some (.inl (10 + 6, n_versions_a0, .inr (.inr (.inr (.inr f_versions_a0)))))) (i_39 : vp_in x5 n_versions_a0) (e_g38 : h g38 = some (.inr (10, [.int number_g38, .int row_g38, va_rf first_g38, va_rf second_g38, .int entries_g38]))) (i_45 : vp_in x5 n_a2) (g_45 : f_a2 x5.toNatClampNeg = some g45) (n_a2_versions_a0 : a2 ≠ versions_a0) (e_g45 : h g45 = some (.inr (10, [.int number_g45, .int row_g45, va_rf first_g45, va_rf second_g45, .int entries_g45]))) (k : xw G m_Segment_init F L bc bs pr px 23 [some (.ref a0), none, some (.ref a2), some (.int x3), some (.int (x4 + entries_g45)), some (.int (x5 + 1))] [] (xw_up h versions_a0 (.inl (10 + 6, n_versions_a0, .inr (.inr (.inr (.inr (va_up f_versions_a0 x5.toNatClampNeg (some g38))))))))) : xw G m_Segment_init F L bc bs pr px 29 [some (.ref a0), none, some (.ref a2), some (.int x3), some (.int x4), some (.int x5)] [] h := by
  refine x_aload_n d_Segment_init_29 rfl rfl ?_
  refine x_get d_Segment_init_30 f_Segment_15 e_a0 rfl ?_
  refine x_iload d_Segment_init_33 rfl ?_
  refine x_aload_n d_Segment_init_35 rfl rfl ?_
  refine x_iload d_Segment_init_36 rfl ?_
  refine x_aald (v := .ref g38) d_Segment_init_38 e_a2 i_38 (by rw [g_38]; rfl) ?_
  refine x_aast d_Segment_init_39 (by decide) e_versions_a0 e_g38 i_39 ?_
  refine x_iload d_Segment_init_40 rfl ?_
  refine x_aload_n d_Segment_init_42 rfl rfl ?_
  refine x_iload d_Segment_init_43 rfl ?_
  refine x_aald (v := .ref g45) d_Segment_init_45 ((xw_up_n _ _ n_a2_versions_a0).trans e_a2) i_45 (by rw [g_45]; rfl) ?_
  refine x_get d_Segment_init_46 f_Segment_19 ((xw_up_n _ _ (xw_ne e_g45 e_versions_a0 (by simp))).trans e_g45) rfl ?_
  refine x_iadd d_Segment_init_49 ?_
  refine x_istore d_Segment_init_50 (by decide) rfl ?_
  show xw G m_Segment_init F L bc bs pr px 52 [some (.ref a0), none, some (.ref a2), some (.int x3), some (.int (x4 + entries_g45)), some (.int x5)] [] (xw_up h versions_a0 (.inl (10 + 6, n_versions_a0, .inr (.inr (.inr (.inr (va_up f_versions_a0 x5.toNatClampNeg (some g38))))))))
  refine x_iinc (v := x5 + 1) d_Segment_init_52 rfl (by rfl) (by decide) rfl ?_
  show xw G m_Segment_init F L bc bs pr px 55 [some (.ref a0), none, some (.ref a2), some (.int x3), some (.int (x4 + entries_g45)), some (.int (x5 + 1))] [] (xw_up h versions_a0 (.inl (10 + 6, n_versions_a0, .inr (.inr (.inr (.inr (va_up f_versions_a0 x5.toNatClampNeg (some g38))))))))
  refine x_goto (tgt := 23) d_Segment_init_55 (by decide) ?_
  exact k
theorem s_Segment_init_58 {G : xw_G} {F L bc bs : Nat} {pr : Option Value → xw_A → Prop} {px : String → xw_A → Prop} {h : xw_A} {a0 : Nat} {x4 : Int32} {level_a0 : Int32} {versions_a0 : Option Nat} {entries_a0 : Int32} (e_a0 : h a0 = some (.inr (6, [.int level_a0, va_rf versions_a0, .int entries_a0]))) (kr : pr none (xw_up h a0 (.inr (6, [.int level_a0, va_rf versions_a0, .int x4])))) : xw G m_Segment_init F L bc bs pr px 58 [some (.ref a0), none, none, none, some (.int x4), none] [] h := by
  refine x_aload_n d_Segment_init_58 rfl rfl ?_
  refine x_iload d_Segment_init_59 rfl ?_
  refine x_putF (ty := .int) d_Segment_init_61 f_Segment_22 fw_Segment_2.1 rfl rfl fw_Segment_2.2 rfl rfl (Nat.le_of_ble_eq_true rfl) e_a0 ?_
  show xw G m_Segment_init F L bc bs pr px 64 [some (.ref a0), none, none, none, some (.int x4), none] [] (xw_up h a0 (.inr (6, [.int level_a0, va_rf versions_a0, .int x4])))
  exact x_vret d_Segment_init_64 rfl kr
