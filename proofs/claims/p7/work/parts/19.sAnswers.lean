/-! blocks of Answers: by program -/
theorem s_Answers_init_0 {G : xw_G} {F L bc bs : Nat} {pr : Option Value → xw_A → Prop} {px : String → xw_A → Prop} {h : xw_A} {a0 : Nat} {rows_a0 : Option Nat} {scores_a0 : Option Nat} {size_a0 : Int32} {lengths_a0 : Option Nat} {order_a0 : Option Nat} (r_1 : 1 ≤ F ∧ 0 + 12 ≤ L) (u_7 : 1 ≤ bc ∧ 24 ≤ bs) (e_a0 : h a0 = some (.inr (1, [va_rf rows_a0, va_rf scores_a0, .int size_a0, va_rf lengths_a0, va_rf order_a0]))) (u_15 : 1 ≤ (bc - 1) ∧ 24 ≤ (bs - 24)) (k : ∀ q7 : Nat, h q7 = none → ∀ q15 : Nat, (xw_up (xw_up h q7 (.inl (0, 24, .inl ((fun _ => 0))))) a0 (.inr (1, [.ref q7, va_rf scores_a0, .int size_a0, va_rf lengths_a0, va_rf order_a0]))) q15 = none → xw G m_Answers_init F L ((bc - 1) - 1) ((bs - 24) - 24) pr px 20 [some (.ref a0)] [] (xw_up (xw_up (xw_up (xw_up h q7 (.inl (0, 24, .inl ((fun _ => 0))))) a0 (.inr (1, [.ref q7, va_rf scores_a0, .int size_a0, va_rf lengths_a0, va_rf order_a0]))) q15 (.inl (3, 24, .inr (.inr (.inr (.inl ((fun _ => 0)))))))) a0 (.inr (1, [.ref q7, .ref q15, .int size_a0, va_rf lengths_a0, va_rf order_a0])))) : xw G m_Answers_init F L bc bs pr px 0 [some (.ref a0)] [] h := by
  refine x_aload_n d_Answers_init_0 rfl rfl ?_
  refine x_objInit d_Answers_init_1 oi_Answers r_1.1 (by simpa [Value.category] using r_1.2) ?_
  refine x_aload_n d_Answers_init_4 rfl rfl ?_
  refine x_bipush (v := 24) d_Answers_init_5 (by decide) ?_
  refine x_inew (N := 24) d_Answers_init_7 (by decide +kernel) (by decide) (by decide) (by decide) u_7 (fun q7 hq7 => ?_)
  show xw G m_Answers_init F L (bc - 1) (bs - 24) pr px 9 [some (.ref a0)] [.ref q7, .ref a0] (xw_up h q7 (.inl (0, 24, .inl ((fun _ => 0)))))
  refine x_putF (ty := (.array .int)) d_Answers_init_9 f_Answers_9 fw_Answers_0.1 rfl rfl fw_Answers_0.2 rfl rfl (Nat.le_of_ble_eq_true rfl) ((xw_up_n _ _ (xw_neN e_a0 hq7)).trans e_a0) ?_
  show xw G m_Answers_init F L (bc - 1) (bs - 24) pr px 12 [some (.ref a0)] [] (xw_up (xw_up h q7 (.inl (0, 24, .inl ((fun _ => 0))))) a0 (.inr (1, [.ref q7, va_rf scores_a0, .int size_a0, va_rf lengths_a0, va_rf order_a0])))
  refine x_aload_n d_Answers_init_12 rfl rfl ?_
  refine x_bipush (v := 24) d_Answers_init_13 (by decide) ?_
  refine x_dnew (N := 24) d_Answers_init_15 (by decide +kernel) (by decide) (by decide) (by decide) u_15 (fun q15 hq15 => ?_)
  show xw G m_Answers_init F L ((bc - 1) - 1) ((bs - 24) - 24) pr px 17 [some (.ref a0)] [.ref q15, .ref a0] (xw_up (xw_up (xw_up h q7 (.inl (0, 24, .inl ((fun _ => 0))))) a0 (.inr (1, [.ref q7, va_rf scores_a0, .int size_a0, va_rf lengths_a0, va_rf order_a0]))) q15 (.inl (3, 24, .inr (.inr (.inr (.inl ((fun _ => 0))))))))
  refine x_putF (ty := (.array .double)) d_Answers_init_17 f_Answers_15 fw_Answers_1.1 rfl rfl fw_Answers_1.2 rfl rfl (Nat.le_of_ble_eq_true rfl) ((xw_up_n _ _ (xw_neN (xw_up_s _ _ _) hq15)).trans (xw_up_s _ _ _)) ?_
  show xw G m_Answers_init F L ((bc - 1) - 1) ((bs - 24) - 24) pr px 20 [some (.ref a0)] [] (xw_up (xw_up (xw_up (xw_up h q7 (.inl (0, 24, .inl ((fun _ => 0))))) a0 (.inr (1, [.ref q7, va_rf scores_a0, .int size_a0, va_rf lengths_a0, va_rf order_a0]))) q15 (.inl (3, 24, .inr (.inr (.inr (.inl ((fun _ => 0)))))))) a0 (.inr (1, [.ref q7, .ref q15, .int size_a0, va_rf lengths_a0, va_rf order_a0])))
  exact (k q7 hq7 q15 hq15)
theorem s_Answers_init_20 {G : xw_G} {F L bc bs : Nat} {pr : Option Value → xw_A → Prop} {px : String → xw_A → Prop} {h : xw_A} {a0 : Nat} {rows_a0 : Option Nat} {scores_a0 : Option Nat} {size_a0 : Int32} {lengths_a0 : Option Nat} {order_a0 : Option Nat} (u_23 : 1 ≤ bc ∧ 24 ≤ bs) (e_a0 : h a0 = some (.inr (1, [va_rf rows_a0, va_rf scores_a0, .int size_a0, va_rf lengths_a0, va_rf order_a0]))) (u_31 : 1 ≤ (bc - 1) ∧ 24 ≤ (bs - 24)) (k : ∀ q23 : Nat, h q23 = none → ∀ q31 : Nat, (xw_up (xw_up h q23 (.inl (0, 24, .inl ((fun _ => 0))))) a0 (.inr (1, [va_rf rows_a0, va_rf scores_a0, .int size_a0, .ref q23, va_rf order_a0]))) q31 = none → xw G m_Answers_init F L ((bc - 1) - 1) ((bs - 24) - 24) pr px 36 [none] [] (xw_up (xw_up (xw_up (xw_up h q23 (.inl (0, 24, .inl ((fun _ => 0))))) a0 (.inr (1, [va_rf rows_a0, va_rf scores_a0, .int size_a0, .ref q23, va_rf order_a0]))) q31 (.inl (0, 24, .inl ((fun _ => 0))))) a0 (.inr (1, [va_rf rows_a0, va_rf scores_a0, .int size_a0, .ref q23, .ref q31])))) : xw G m_Answers_init F L bc bs pr px 20 [some (.ref a0)] [] h := by
  refine x_aload_n d_Answers_init_20 rfl rfl ?_
  refine x_bipush (v := 24) d_Answers_init_21 (by decide) ?_
  refine x_inew (N := 24) d_Answers_init_23 (by decide +kernel) (by decide) (by decide) (by decide) u_23 (fun q23 hq23 => ?_)
  show xw G m_Answers_init F L (bc - 1) (bs - 24) pr px 25 [some (.ref a0)] [.ref q23, .ref a0] (xw_up h q23 (.inl (0, 24, .inl ((fun _ => 0)))))
  refine x_putF (ty := (.array .int)) d_Answers_init_25 f_Answers_19 fw_Answers_3.1 rfl rfl fw_Answers_3.2 rfl rfl (Nat.le_of_ble_eq_true rfl) ((xw_up_n _ _ (xw_neN e_a0 hq23)).trans e_a0) ?_
  show xw G m_Answers_init F L (bc - 1) (bs - 24) pr px 28 [some (.ref a0)] [] (xw_up (xw_up h q23 (.inl (0, 24, .inl ((fun _ => 0))))) a0 (.inr (1, [va_rf rows_a0, va_rf scores_a0, .int size_a0, .ref q23, va_rf order_a0])))
  refine x_aload_n d_Answers_init_28 rfl rfl ?_
  refine x_bipush (v := 24) d_Answers_init_29 (by decide) ?_
  refine x_inew (N := 24) d_Answers_init_31 (by decide +kernel) (by decide) (by decide) (by decide) u_31 (fun q31 hq31 => ?_)
  show xw G m_Answers_init F L ((bc - 1) - 1) ((bs - 24) - 24) pr px 33 [some (.ref a0)] [.ref q31, .ref a0] (xw_up (xw_up (xw_up h q23 (.inl (0, 24, .inl ((fun _ => 0))))) a0 (.inr (1, [va_rf rows_a0, va_rf scores_a0, .int size_a0, .ref q23, va_rf order_a0]))) q31 (.inl (0, 24, .inl ((fun _ => 0)))))
  refine x_putF (ty := (.array .int)) d_Answers_init_33 f_Answers_22 fw_Answers_4.1 rfl rfl fw_Answers_4.2 rfl rfl (Nat.le_of_ble_eq_true rfl) ((xw_up_n _ _ (xw_neN (xw_up_s _ _ _) hq31)).trans (xw_up_s _ _ _)) ?_
  show xw G m_Answers_init F L ((bc - 1) - 1) ((bs - 24) - 24) pr px 36 [some (.ref a0)] [] (xw_up (xw_up (xw_up (xw_up h q23 (.inl (0, 24, .inl ((fun _ => 0))))) a0 (.inr (1, [va_rf rows_a0, va_rf scores_a0, .int size_a0, .ref q23, va_rf order_a0]))) q31 (.inl (0, 24, .inl ((fun _ => 0))))) a0 (.inr (1, [va_rf rows_a0, va_rf scores_a0, .int size_a0, .ref q23, .ref q31])))
  exact x_le (lv' := [none]) (xw_le_n xw_le_e) ((k q23 hq23 q31 hq31))
theorem s_Answers_init_36 {G : xw_G} {F L bc bs : Nat} {pr : Option Value → xw_A → Prop} {px : String → xw_A → Prop} {h : xw_A}   (kr : pr none h) : xw G m_Answers_init F L bc bs pr px 36 [none] [] h := by
  exact x_vret d_Answers_init_36 rfl kr
theorem s_Answers_take_0 {G : xw_G} {F L bc bs : Nat} {pr : Option Value → xw_A → Prop} {px : String → xw_A → Prop} {h : xw_A} {a0 : Nat} {x1 : Int32} {a2 : Nat} {rows_a0 : Option Nat} {scores_a0 : Option Nat} {size_a0 : Int32} {lengths_a0 : Option Nat} {order_a0 : Option Nat} (e_a0 : h a0 = some (.inr (1, [va_rf rows_a0, va_rf scores_a0, .int size_a0, va_rf lengths_a0, va_rf order_a0]))) (k : xw G m_Answers_take F L bc bs pr px 7 [some (.ref a0), some (.int x1), some (.ref a2), some (.int 1), none] [] (xw_up h a0 (.inr (1, [va_rf rows_a0, va_rf scores_a0, .int 0, va_rf lengths_a0, va_rf order_a0])))) : xw G m_Answers_take F L bc bs pr px 0 [some (.ref a0), some (.int x1), some (.ref a2), none, none] [] h := by
  refine x_aload_n d_Answers_take_0 rfl rfl ?_
  refine x_iconst (v := 0) d_Answers_take_1 (by decide) ?_
  refine x_put (ty := .int) d_Answers_take_2 f_Answers_25 fw_Answers_2.1 fw_Answers_2.2 rfl rfl (Nat.le_of_ble_eq_true rfl) e_a0 ?_
  show xw G m_Answers_take F L bc bs pr px 5 [some (.ref a0), some (.int x1), some (.ref a2), none, none] [] (xw_up h a0 (.inr (1, [va_rf rows_a0, va_rf scores_a0, .int 0, va_rf lengths_a0, va_rf order_a0])))
  refine x_iconst (v := 1) d_Answers_take_5 (by decide) ?_
  refine x_istore_n d_Answers_take_6 rfl (by decide) rfl ?_
  show xw G m_Answers_take F L bc bs pr px 7 [some (.ref a0), some (.int x1), some (.ref a2), some (.int 1), none] [] (xw_up h a0 (.inr (1, [va_rf rows_a0, va_rf scores_a0, .int 0, va_rf lengths_a0, va_rf order_a0])))
  exact k
theorem s_Answers_take_7 {G : xw_G} {F L bc bs : Nat} {pr : Option Value → xw_A → Prop} {px : String → xw_A → Prop} {h : xw_A} {a0 : Nat} {x1 : Int32} {a2 : Nat} {x3 : Int32}  (kt : 24 < x3 → xw G m_Answers_take F L bc bs pr px 84 [none, none, none, none, none] [] h) (kf : ¬ 24 < x3 → xw G m_Answers_take F L bc bs pr px 13 [some (.ref a0), some (.int x1), some (.ref a2), some (.int x3), none] [] h) : xw G m_Answers_take F L bc bs pr px 7 [some (.ref a0), some (.int x1), some (.ref a2), some (.int x3), none] [] h := by
  refine x_iload_n d_Answers_take_7 rfl rfl ?_
  refine x_bipush (v := 24) d_Answers_take_8 (by decide) ?_
  refine x_icmp_gt (tgt := 84) d_Answers_take_10 (by decide) (fun hc => ?_) (fun hc => ?_)
  · exact x_le (lv' := [none, none, none, none, none]) (xw_le_n (xw_le_n (xw_le_n (xw_le_n (xw_le_n xw_le_e))))) (kt hc)
  · exact kf hc
theorem s_Answers_take_13 {G : xw_G} {F L bc bs : Nat} {pr : Option Value → xw_A → Prop} {px : String → xw_A → Prop} {h : xw_A} {a0 : Nat} {x1 : Int32} {a2 : Nat} {x3 : Int32}  (k : xw G m_Answers_take F L bc bs pr px 15 [some (.ref a0), some (.int x1), some (.ref a2), some (.int x3), none] [.int x3, .ref a2] h) : xw G m_Answers_take F L bc bs pr px 13 [some (.ref a0), some (.int x1), some (.ref a2), some (.int x3), none] [] h := by
  refine x_aload_n d_Answers_take_13 rfl rfl ?_
  refine x_iload_n d_Answers_take_14 rfl rfl ?_
  exact k
theorem s_Answers_take_18 {G : xw_G} {F L bc bs : Nat} {pr : Option Value → xw_A → Prop} {px : String → xw_A → Prop} {h : xw_A} {a0 : Nat} {x1 : Int32} {a2 : Nat} {x3 : Int32} {s0 : Option Nat}  (kn : s0 = none → xw G m_Answers_take F L bc bs pr px 78 [some (.ref a0), some (.int x1), some (.ref a2), some (.int x3), none] [] h) (ks : ∀ a9 : Nat, s0 = some a9 → xw G m_Answers_take F L bc bs pr px 25 [some (.ref a0), some (.int x1), some (.ref a2), some (.int x3), some (va_rf s0)] [] h) : xw G m_Answers_take F L bc bs pr px 18 [some (.ref a0), some (.int x1), some (.ref a2), some (.int x3), none] [va_rf s0] h := by
  refine x_astoreq d_Answers_take_18 (by decide) rfl ?_
  show xw G m_Answers_take F L bc bs pr px 20 [some (.ref a0), some (.int x1), some (.ref a2), some (.int x3), some (va_rf s0)] [] h
  refine x_aloadq d_Answers_take_20 rfl ?_
  refine x_ifnullq (tgt := 78) d_Answers_take_22 (by decide) (fun hc => ?_) (fun a9 hc => ?_)
  · exact x_le (lv' := [some (.ref a0), some (.int x1), some (.ref a2), some (.int x3), none]) (xw_le_s (xw_le_s (xw_le_s (xw_le_s (xw_le_n xw_le_e))))) (kn hc)
  · exact ks a9 hc
theorem s_Answers_take_25 {G : xw_G} {F L bc bs : Nat} {pr : Option Value → xw_A → Prop} {px : String → xw_A → Prop} {h : xw_A} {a0 : Nat} {x1 : Int32} {a2 : Nat} {x3 : Int32} {r4 : Option Nat}  (kt : ¬ ((x1 >>> (x3 &&& 31)) &&& 1) = 1 → xw G m_Answers_take F L bc bs pr px 78 [some (.ref a0), some (.int x1), some (.ref a2), some (.int x3), none] [] h) (kf : ((x1 >>> (x3 &&& 31)) &&& 1) = 1 → xw G m_Answers_take F L bc bs pr px 34 [some (.ref a0), some (.int x1), some (.ref a2), some (.int x3), some (va_rf r4)] [] h) : xw G m_Answers_take F L bc bs pr px 25 [some (.ref a0), some (.int x1), some (.ref a2), some (.int x3), some (va_rf r4)] [] h := by
  refine x_iload_n d_Answers_take_25 rfl rfl ?_
  refine x_iload_n d_Answers_take_26 rfl rfl ?_
  refine x_ishr d_Answers_take_27 ?_
  refine x_iconst (v := 1) d_Answers_take_28 (by decide) ?_
  refine x_iand d_Answers_take_29 ?_
  refine x_iconst (v := 1) d_Answers_take_30 (by decide) ?_
  refine x_icmp_ne (tgt := 78) d_Answers_take_31 (by decide) (fun hc => ?_) (fun hc => ?_)
  · exact x_le (lv' := [some (.ref a0), some (.int x1), some (.ref a2), some (.int x3), none]) (xw_le_s (xw_le_s (xw_le_s (xw_le_s (xw_le_n xw_le_e))))) (kt hc)
  · exact kf hc
theorem s_Answers_take_34 {G : xw_G} {F L bc bs : Nat} {pr : Option Value → xw_A → Prop} {px : String → xw_A → Prop} {h : xw_A} {a0 : Nat} {x1 : Int32} {a2 : Nat} {x3 : Int32} {r4 : Option Nat} {rows_a0 : Nat} {scores_a0 : Option Nat} {size_a0 : Int32} {lengths_a0 : Option Nat} {order_a0 : Option Nat} {n_rows_a0 : Nat} {f_rows_a0 : Nat → Int32} (e_a0 : h a0 = some (.inr (1, [.ref rows_a0, va_rf scores_a0, .int size_a0, va_rf lengths_a0, va_rf order_a0]))) (e_rows_a0 : h rows_a0 = some (.inl (0, n_rows_a0, .inl f_rows_a0))) (i_43 : vp_in size_a0 n_rows_a0) (k : xw G m_Answers_take F L bc bs pr px 54 [some (.ref a0), some (.int x1), some (.ref a2), some (.int x3), some (va_rf r4)] [va_rf r4, .int size_a0, va_rf lengths_a0] (xw_up h rows_a0 (.inl (0, n_rows_a0, .inl (upd f_rows_a0 (size_a0).toNatClampNeg x3))))) : xw G m_Answers_take F L bc bs pr px 34 [some (.ref a0), some (.int x1), some (.ref a2), some (.int x3), some (va_rf r4)] [] h := by
  refine x_aload_n d_Answers_take_34 rfl rfl ?_
  refine x_get d_Answers_take_35 f_Answers_9 e_a0 rfl ?_
  refine x_aload_n d_Answers_take_38 rfl rfl ?_
  refine x_get d_Answers_take_39 f_Answers_25 e_a0 rfl ?_
  refine x_iload_n d_Answers_take_42 rfl rfl ?_
  refine x_iast d_Answers_take_43 e_rows_a0 i_43 ?_
  refine x_aload_n d_Answers_take_44 rfl rfl ?_
  refine x_get d_Answers_take_45 f_Answers_19 ((xw_up_n _ _ (xw_ne e_a0 e_rows_a0 (by simp))).trans e_a0) rfl ?_
  refine x_aload_n d_Answers_take_48 rfl rfl ?_
  refine x_get d_Answers_take_49 f_Answers_25 ((xw_up_n _ _ (xw_ne e_a0 e_rows_a0 (by simp))).trans e_a0) rfl ?_
  refine x_aloadq d_Answers_take_52 rfl ?_
  exact k
theorem s_Answers_take_57 {G : xw_G} {F L bc bs : Nat} {pr : Option Value → xw_A → Prop} {px : String → xw_A → Prop} {h : xw_A} {a0 : Nat} {x1 : Int32} {a2 : Nat} {x3 : Int32} {y0 : Int32} {y1 : Int32} {b2 : Nat} {n_b2 : Nat} {f_b2 : Nat → Int32} {rows_a0 : Option Nat} {scores_a0 : Nat} {size_a0 : Int32} {lengths_a0 : Option Nat} {order_a0 : Option Nat} {n_scores_a0 : Nat} {f_scores_a0 : Nat → UInt64} (e_b2 : h b2 = some (.inl (0, n_b2, .inl f_b2))) (i_57 : vp_in y1 n_b2) (e_a0 : h a0 = some (.inr (1, [va_rf rows_a0, .ref scores_a0, .int size_a0, va_rf lengths_a0, va_rf order_a0]))) (e_scores_a0 : h scores_a0 = some (.inl (3, n_scores_a0, .inr (.inr (.inr (.inl f_scores_a0)))))) (i_67 : vp_in size_a0 n_scores_a0) (k : xw G m_Answers_take F L bc bs pr px 78 [some (.ref a0), some (.int x1), some (.ref a2), some (.int x3), none] [] (xw_up (xw_up (xw_up h b2 (.inl (0, n_b2, .inl (upd f_b2 (y1).toNatClampNeg y0)))) scores_a0 (.inl (3, n_scores_a0, .inr (.inr (.inr (.inl (vf_upd f_scores_a0 (size_a0).toNatClampNeg FP.dconst0))))))) a0 (.inr (1, [va_rf rows_a0, .ref scores_a0, .int (size_a0 + 1), va_rf lengths_a0, va_rf order_a0])))) : xw G m_Answers_take F L bc bs pr px 57 [some (.ref a0), some (.int x1), some (.ref a2), some (.int x3), none] [.int y0, .int y1, .ref b2] h := by
  refine x_iast d_Answers_take_57 e_b2 i_57 ?_
  refine x_aload_n d_Answers_take_58 rfl rfl ?_
  refine x_get d_Answers_take_59 f_Answers_15 ((xw_up_n _ _ (xw_ne e_a0 e_b2 (by simp))).trans e_a0) rfl ?_
  refine x_aload_n d_Answers_take_62 rfl rfl ?_
  refine x_get d_Answers_take_63 f_Answers_25 ((xw_up_n _ _ (xw_ne e_a0 e_b2 (by simp))).trans e_a0) rfl ?_
  refine x_dconst0 d_Answers_take_66 ?_
  refine x_dast d_Answers_take_67 ((xw_up_n _ _ (xw_ne e_scores_a0 e_b2 (by simp))).trans e_scores_a0) i_67 ?_
  refine x_aload_n d_Answers_take_68 rfl rfl ?_
  refine x_dup d_Answers_take_69 rfl ?_
  refine x_get d_Answers_take_70 f_Answers_25 ((xw_up_n _ _ (xw_ne e_a0 e_scores_a0 (by simp))).trans ((xw_up_n _ _ (xw_ne e_a0 e_b2 (by simp))).trans e_a0)) rfl ?_
  refine x_iconst (v := 1) d_Answers_take_73 (by decide) ?_
  refine x_iadd d_Answers_take_74 ?_
  refine x_put (ty := .int) d_Answers_take_75 f_Answers_25 fw_Answers_2.1 fw_Answers_2.2 rfl rfl (Nat.le_of_ble_eq_true rfl) ((xw_up_n _ _ (xw_ne e_a0 e_scores_a0 (by simp))).trans ((xw_up_n _ _ (xw_ne e_a0 e_b2 (by simp))).trans e_a0)) ?_
  show xw G m_Answers_take F L bc bs pr px 78 [some (.ref a0), some (.int x1), some (.ref a2), some (.int x3), none] [] (xw_up (xw_up (xw_up h b2 (.inl (0, n_b2, .inl (upd f_b2 (y1).toNatClampNeg y0)))) scores_a0 (.inl (3, n_scores_a0, .inr (.inr (.inr (.inl (vf_upd f_scores_a0 (size_a0).toNatClampNeg FP.dconst0))))))) a0 (.inr (1, [va_rf rows_a0, .ref scores_a0, .int (size_a0 + 1), va_rf lengths_a0, va_rf order_a0])))
  exact k
theorem s_Answers_take_78 {G : xw_G} {F L bc bs : Nat} {pr : Option Value → xw_A → Prop} {px : String → xw_A → Prop} {h : xw_A} {a0 : Nat} {x1 : Int32} {a2 : Nat} {x3 : Int32}  (k : xw G m_Answers_take F L bc bs pr px 7 [some (.ref a0), some (.int x1), some (.ref a2), some (.int (x3 + 1)), none] [] h) : xw G m_Answers_take F L bc bs pr px 78 [some (.ref a0), some (.int x1), some (.ref a2), some (.int x3), none] [] h := by
  refine x_iinc (v := x3 + 1) d_Answers_take_78 rfl (by rfl) (by decide) rfl ?_
  show xw G m_Answers_take F L bc bs pr px 81 [some (.ref a0), some (.int x1), some (.ref a2), some (.int (x3 + 1)), none] [] h
  refine x_goto (tgt := 7) d_Answers_take_81 (by decide) ?_
  exact k
theorem s_Answers_take_84 {G : xw_G} {F L bc bs : Nat} {pr : Option Value → xw_A → Prop} {px : String → xw_A → Prop} {h : xw_A}   (kr : pr none h) : xw G m_Answers_take F L bc bs pr px 84 [none, none, none, none, none] [] h := by
  exact x_vret d_Answers_take_84 rfl kr
theorem s_Answers_rank_0 {G : xw_G} {F L bc bs : Nat} {pr : Option Value → xw_A → Prop} {px : String → xw_A → Prop} {h : xw_A} {a0 : Nat} {a1 : Nat} {x2 : Int32} {a3 : Nat} {a4 : Nat}  (k : xw G m_Answers_rank F L bc bs pr px 2 [some (.ref a0), some (.ref a1), some (.int x2), some (.ref a3), some (.ref a4), none, none, none, none, none] [.ref a4] h) : xw G m_Answers_rank F L bc bs pr px 0 [some (.ref a0), some (.ref a1), some (.int x2), some (.ref a3), some (.ref a4), none, none, none, none, none] [] h := by
  refine x_aload d_Answers_rank_0 rfl ?_
  exact k
theorem s_Answers_rank_5 {G : xw_G} {F L bc bs : Nat} {pr : Option Value → xw_A → Prop} {px : String → xw_A → Prop} {h : xw_A} {a0 : Nat} {a1 : Nat} {x2 : Int32} {a3 : Nat} {a4 : Nat} {y0 : Int32}  (k : xw G m_Answers_rank F L bc bs pr px 9 [some (.ref a0), some (.ref a1), some (.int x2), some (.ref a3), some (.ref a4), some (.int y0), none, none, none, none] [.ref a4] h) : xw G m_Answers_rank F L bc bs pr px 5 [some (.ref a0), some (.ref a1), some (.int x2), some (.ref a3), some (.ref a4), none, none, none, none, none] [.int y0] h := by
  refine x_istore d_Answers_rank_5 (by decide) rfl ?_
  show xw G m_Answers_rank F L bc bs pr px 7 [some (.ref a0), some (.ref a1), some (.int x2), some (.ref a3), some (.ref a4), some (.int y0), none, none, none, none] [] h
  refine x_aload d_Answers_rank_7 rfl ?_
  exact k
theorem s_Answers_rank_12 {G : xw_G} {F L bc bs : Nat} {pr : Option Value → xw_A → Prop} {px : String → xw_A → Prop} {h : xw_A} {a0 : Nat} {a1 : Nat} {x2 : Int32} {a3 : Nat} {x5 : Int32} {y0 : Int32}  (kt : x5 ≤ 0 → xw G m_Answers_rank F L bc bs pr px 69 [some (.ref a0), none, none, none, none, none, none, none, none, none] [] h) (kf : ¬ x5 ≤ 0 → xw G m_Answers_rank F L bc bs pr px 19 [some (.ref a0), some (.ref a1), some (.int x2), some (.ref a3), none, some (.int x5), some (.int y0), none, none, none] [] h) : xw G m_Answers_rank F L bc bs pr px 12 [some (.ref a0), some (.ref a1), some (.int x2), some (.ref a3), none, some (.int x5), none, none, none, none] [.int y0] h := by
  refine x_istore d_Answers_rank_12 (by decide) rfl ?_
  show xw G m_Answers_rank F L bc bs pr px 14 [some (.ref a0), some (.ref a1), some (.int x2), some (.ref a3), none, some (.int x5), some (.int y0), none, none, none] [] h
  refine x_iload d_Answers_rank_14 rfl ?_
  refine x_if_le (tgt := 69) d_Answers_rank_16 (by decide) (fun hc => ?_) (fun hc => ?_)
  · exact x_le (lv' := [some (.ref a0), none, none, none, none, none, none, none, none, none]) (xw_le_s (xw_le_n (xw_le_n (xw_le_n (xw_le_n (xw_le_n (xw_le_n (xw_le_n (xw_le_n (xw_le_n xw_le_e)))))))))) (kt hc)
  · exact kf hc
theorem s_Answers_rank_19 {G : xw_G} {F L bc bs : Nat} {pr : Option Value → xw_A → Prop} {px : String → xw_A → Prop} {h : xw_A} {a0 : Nat} {a1 : Nat} {x2 : Int32} {a3 : Nat} {x5 : Int32} {x6 : Int32}  (kt : x6 ≤ 0 → xw G m_Answers_rank F L bc bs pr px 69 [some (.ref a0), none, none, none, none, none, none, none, none, none] [] h) (kf : ¬ x6 ≤ 0 → xw G m_Answers_rank F L bc bs pr px 24 [some (.ref a0), some (.ref a1), some (.int x2), some (.ref a3), none, some (.int x5), some (.int x6), none, none, none] [] h) : xw G m_Answers_rank F L bc bs pr px 19 [some (.ref a0), some (.ref a1), some (.int x2), some (.ref a3), none, some (.int x5), some (.int x6), none, none, none] [] h := by
  refine x_iload d_Answers_rank_19 rfl ?_
  refine x_if_le (tgt := 69) d_Answers_rank_21 (by decide) (fun hc => ?_) (fun hc => ?_)
  · exact x_le (lv' := [some (.ref a0), none, none, none, none, none, none, none, none, none]) (xw_le_s (xw_le_n (xw_le_n (xw_le_n (xw_le_n (xw_le_n (xw_le_n (xw_le_n (xw_le_n (xw_le_n xw_le_e)))))))))) (kt hc)
  · exact kf hc
theorem s_Answers_rank_24 {G : xw_G} {F L bc bs : Nat} {pr : Option Value → xw_A → Prop} {px : String → xw_A → Prop} {h : xw_A} {a0 : Nat} {a1 : Nat} {x2 : Int32} {a3 : Nat} {x5 : Int32} {x6 : Int32} (w_30 : vf_n64 (FP.ddiv (FP.i2d x6) (FP.i2d x5))) (k : xw G m_Answers_rank F L bc bs pr px 36 [some (.ref a0), some (.ref a1), some (.int x2), some (.ref a3), none, some (.int x5), none, some (.double (FP.ddiv (FP.i2d x6) (FP.i2d x5))), none, some (.int 0)] [] h) : xw G m_Answers_rank F L bc bs pr px 24 [some (.ref a0), some (.ref a1), some (.int x2), some (.ref a3), none, some (.int x5), some (.int x6), none, none, none] [] h := by
  refine x_iload d_Answers_rank_24 rfl ?_
  refine x_i2d d_Answers_rank_26 ?_
  refine x_iload d_Answers_rank_27 rfl ?_
  refine x_i2d d_Answers_rank_29 ?_
  refine x_ddiv d_Answers_rank_30 w_30 ?_
  refine x_dstore d_Answers_rank_31 (by decide) rfl ?_
  show xw G m_Answers_rank F L bc bs pr px 33 [some (.ref a0), some (.ref a1), some (.int x2), some (.ref a3), none, some (.int x5), some (.int x6), some (.double (FP.ddiv (FP.i2d x6) (FP.i2d x5))), none, none] [] h
  refine x_iconst (v := 0) d_Answers_rank_33 (by decide) ?_
  refine x_istore d_Answers_rank_34 (by decide) trivial ?_
  show xw G m_Answers_rank F L bc bs pr px 36 [some (.ref a0), some (.ref a1), some (.int x2), some (.ref a3), none, some (.int x5), some (.int x6), some (.double (FP.ddiv (FP.i2d x6) (FP.i2d x5))), none, some (.int 0)] [] h
  exact x_le (lv' := [some (.ref a0), some (.ref a1), some (.int x2), some (.ref a3), none, some (.int x5), none, some (.double (FP.ddiv (FP.i2d x6) (FP.i2d x5))), none, some (.int 0)]) (xw_le_s (xw_le_s (xw_le_s (xw_le_s (xw_le_n (xw_le_s (xw_le_n (xw_le_s (xw_le_n (xw_le_s xw_le_e)))))))))) (k)
theorem s_Answers_rank_36 {G : xw_G} {F L bc bs : Nat} {pr : Option Value → xw_A → Prop} {px : String → xw_A → Prop} {h : xw_A} {a0 : Nat} {a1 : Nat} {x2 : Int32} {a3 : Nat} {x5 : Int32} {x7 : UInt64} {x9 : Int32}  (kt : x2 ≤ x9 → xw G m_Answers_rank F L bc bs pr px 69 [some (.ref a0), none, none, none, none, none, none, none, none, none] [] h) (kf : ¬ x2 ≤ x9 → xw G m_Answers_rank F L bc bs pr px 42 [some (.ref a0), some (.ref a1), some (.int x2), some (.ref a3), none, some (.int x5), none, some (.double x7), none, some (.int x9)] [] h) : xw G m_Answers_rank F L bc bs pr px 36 [some (.ref a0), some (.ref a1), some (.int x2), some (.ref a3), none, some (.int x5), none, some (.double x7), none, some (.int x9)] [] h := by
  refine x_iload d_Answers_rank_36 rfl ?_
  refine x_iload_n d_Answers_rank_38 rfl rfl ?_
  refine x_icmp_ge (tgt := 69) d_Answers_rank_39 (by decide) (fun hc => ?_) (fun hc => ?_)
  · exact x_le (lv' := [some (.ref a0), none, none, none, none, none, none, none, none, none]) (xw_le_s (xw_le_n (xw_le_n (xw_le_n (xw_le_n (xw_le_n (xw_le_n (xw_le_n (xw_le_n (xw_le_n xw_le_e)))))))))) (kt hc)
  · exact kf hc
theorem s_Answers_rank_42 {G : xw_G} {F L bc bs : Nat} {pr : Option Value → xw_A → Prop} {px : String → xw_A → Prop} {h : xw_A} {a0 : Nat} {a1 : Nat} {x2 : Int32} {a3 : Nat} {x5 : Int32} {x7 : UInt64} {x9 : Int32}  (k : xw G m_Answers_rank F L bc bs pr px 52 [some (.ref a0), some (.ref a1), some (.int x2), some (.ref a3), none, some (.int x5), none, some (.double x7), none, some (.int x9)] [.int x9, .ref a1, .int x5, .ref a3, .int x9, .ref a1, .ref a0] h) : xw G m_Answers_rank F L bc bs pr px 42 [some (.ref a0), some (.ref a1), some (.int x2), some (.ref a3), none, some (.int x5), none, some (.double x7), none, some (.int x9)] [] h := by
  refine x_aload_n d_Answers_rank_42 rfl rfl ?_
  refine x_aload_n d_Answers_rank_43 rfl rfl ?_
  refine x_iload d_Answers_rank_44 rfl ?_
  refine x_aload_n d_Answers_rank_46 rfl rfl ?_
  refine x_iload d_Answers_rank_47 rfl ?_
  refine x_aload_n d_Answers_rank_49 rfl rfl ?_
  refine x_iload d_Answers_rank_50 rfl ?_
  exact k
theorem s_Answers_rank_58 {G : xw_G} {F L bc bs : Nat} {pr : Option Value → xw_A → Prop} {px : String → xw_A → Prop} {h : xw_A} {a0 : Nat} {a1 : Nat} {x2 : Int32} {a3 : Nat} {x5 : Int32} {x7 : UInt64} {x9 : Int32} {y0 : UInt64}  (k : xw G m_Answers_rank F L bc bs pr px 60 [some (.ref a0), some (.ref a1), some (.int x2), some (.ref a3), none, some (.int x5), none, some (.double x7), none, some (.int x9)] [.double x7, .double y0, .ref a3, .int x9, .ref a1, .ref a0] h) : xw G m_Answers_rank F L bc bs pr px 58 [some (.ref a0), some (.ref a1), some (.int x2), some (.ref a3), none, some (.int x5), none, some (.double x7), none, some (.int x9)] [.double y0, .ref a3, .int x9, .ref a1, .ref a0] h := by
  refine x_dload d_Answers_rank_58 rfl ?_
  exact k
theorem s_Answers_rank_63 {G : xw_G} {F L bc bs : Nat} {pr : Option Value → xw_A → Prop} {px : String → xw_A → Prop} {h : xw_A} {a0 : Nat} {a1 : Nat} {x2 : Int32} {a3 : Nat} {x5 : Int32} {x7 : UInt64} {x9 : Int32}  (k : xw G m_Answers_rank F L bc bs pr px 36 [some (.ref a0), some (.ref a1), some (.int x2), some (.ref a3), none, some (.int x5), none, some (.double x7), none, some (.int (x9 + 1))] [] h) : xw G m_Answers_rank F L bc bs pr px 63 [some (.ref a0), some (.ref a1), some (.int x2), some (.ref a3), none, some (.int x5), none, some (.double x7), none, some (.int x9)] [] h := by
  refine x_iinc (v := x9 + 1) d_Answers_rank_63 rfl (by rfl) (by decide) trivial ?_
  show xw G m_Answers_rank F L bc bs pr px 66 [some (.ref a0), some (.ref a1), some (.int x2), some (.ref a3), none, some (.int x5), none, some (.double x7), none, some (.int (x9 + 1))] [] h
  refine x_goto (tgt := 36) d_Answers_rank_66 (by decide) ?_
  exact k
theorem s_Answers_rank_69 {G : xw_G} {F L bc bs : Nat} {pr : Option Value → xw_A → Prop} {px : String → xw_A → Prop} {h : xw_A} {a0 : Nat}  (k : xw G m_Answers_rank F L bc bs pr px 70 [some (.ref a0), none, none, none, none, none, none, none, none, none] [.ref a0] h) : xw G m_Answers_rank F L bc bs pr px 69 [some (.ref a0), none, none, none, none, none, none, none, none, none] [] h := by
  refine x_aload_n d_Answers_rank_69 rfl rfl ?_
  exact k
theorem s_Answers_rank_73 {G : xw_G} {F L bc bs : Nat} {pr : Option Value → xw_A → Prop} {px : String → xw_A → Prop} {h : xw_A}   (kr : pr none h) : xw G m_Answers_rank F L bc bs pr px 73 [none, none, none, none, none, none, none, none, none, none] [] h := by
  exact x_vret d_Answers_rank_73 rfl kr
theorem s_Answers_rarity_0 {G : xw_G} {F L bc bs : Nat} {pr : Option Value → xw_A → Prop} {px : String → xw_A → Prop} {h : xw_A} {x0 : Int32} {x1 : Int32} (w_7 : vf_n64 (FP.dadd (FP.i2d (x0 - x1)) 4602678819172646912)) (w_13 : vf_n64 (FP.dadd (FP.i2d x1) 4602678819172646912)) (w_14 : vf_n64 (FP.ddiv (FP.dadd (FP.i2d (x0 - x1)) 4602678819172646912) (FP.dadd (FP.i2d x1) 4602678819172646912))) (k : xw G m_Answers_rarity F L bc bs pr px 15 [some (.int x0), some (.int x1), none, none] [.double (FP.ddiv (FP.dadd (FP.i2d (x0 - x1)) 4602678819172646912) (FP.dadd (FP.i2d x1) 4602678819172646912))] h) : xw G m_Answers_rarity F L bc bs pr px 0 [some (.int x0), some (.int x1), none, none] [] h := by
  refine x_iload_n d_Answers_rarity_0 rfl rfl ?_
  refine x_iload_n d_Answers_rarity_1 rfl rfl ?_
  refine x_isub d_Answers_rarity_2 ?_
  refine x_i2d d_Answers_rarity_3 ?_
  refine x_ldc2d (v := 4602678819172646912) d_Answers_rarity_4 (by decide +kernel) ?_
  refine x_dadd d_Answers_rarity_7 w_7 ?_
  refine x_iload_n d_Answers_rarity_8 rfl rfl ?_
  refine x_i2d d_Answers_rarity_9 ?_
  refine x_ldc2d (v := 4602678819172646912) d_Answers_rarity_10 (by decide +kernel) ?_
  refine x_dadd d_Answers_rarity_13 w_13 ?_
  refine x_ddiv d_Answers_rarity_14 w_14 ?_
  exact k
theorem s_Answers_rarity_18 {G : xw_G} {F L bc bs : Nat} {pr : Option Value → xw_A → Prop} {px : String → xw_A → Prop} {h : xw_A} {y0 : UInt64}  (kt : (Op.cmpValue (FP.dcmp y0 FP.dconst0) .l) ≤ 0 → xw G m_Answers_rarity F L bc bs pr px 29 [none, none, none, none] [] h) (kf : ¬ (Op.cmpValue (FP.dcmp y0 FP.dconst0) .l) ≤ 0 → xw G m_Answers_rarity F L bc bs pr px 25 [none, none, some (.double y0), none] [] h) : xw G m_Answers_rarity F L bc bs pr px 18 [none, none, none, none] [.double y0] h := by
  refine x_dstore_n d_Answers_rarity_18 rfl (by decide) trivial ?_
  show xw G m_Answers_rarity F L bc bs pr px 19 [none, none, some (.double y0), none] [] h
  refine x_dload_n d_Answers_rarity_19 rfl rfl ?_
  refine x_dconst0 d_Answers_rarity_20 ?_
  refine x_dcmp d_Answers_rarity_21 ?_
  refine x_if_le (tgt := 29) d_Answers_rarity_22 (by decide) (fun hc => ?_) (fun hc => ?_)
  · exact x_le (lv' := [none, none, none, none]) (xw_le_n (xw_le_n (xw_le_n (xw_le_n xw_le_e)))) (kt hc)
  · exact kf hc
theorem s_Answers_rarity_25 {G : xw_G} {F L bc bs : Nat} {pr : Option Value → xw_A → Prop} {px : String → xw_A → Prop} {h : xw_A} {x2 : UInt64}  (k : xw G m_Answers_rarity F L bc bs pr px 32 [none, none, none, none] [.double x2] h) : xw G m_Answers_rarity F L bc bs pr px 25 [none, none, some (.double x2), none] [] h := by
  refine x_dload_n d_Answers_rarity_25 rfl rfl ?_
  refine x_goto (tgt := 32) d_Answers_rarity_26 (by decide) ?_
  exact x_le (lv' := [none, none, none, none]) (xw_le_n (xw_le_n (xw_le_n (xw_le_n xw_le_e)))) (k)
theorem s_Answers_rarity_29 {G : xw_G} {F L bc bs : Nat} {pr : Option Value → xw_A → Prop} {px : String → xw_A → Prop} {h : xw_A}   (k : xw G m_Answers_rarity F L bc bs pr px 32 [none, none, none, none] [.double 4517329193108106637] h) : xw G m_Answers_rarity F L bc bs pr px 29 [none, none, none, none] [] h := by
  refine x_ldc2d (v := 4517329193108106637) d_Answers_rarity_29 (by decide +kernel) ?_
  exact k
theorem s_Answers_rarity_32 {G : xw_G} {F L bc bs : Nat} {pr : Option Value → xw_A → Prop} {px : String → xw_A → Prop} {h : xw_A} {y0 : UInt64}  (kr : pr (some (.double y0)) h) : xw G m_Answers_rarity F L bc bs pr px 32 [none, none, none, none] [.double y0] h := by
  exact x_dret d_Answers_rarity_32 rfl kr
theorem s_Answers_ln_0 {G : xw_G} {F L bc bs : Nat} {pr : Option Value → xw_A → Prop} {px : String → xw_A → Prop} {h : xw_A} {x0 : UInt64}  (k : xw G m_Answers_ln F L bc bs pr px 8 [none, none, some (.double x0), none, some (.int 0), some (.int 0), none, none, none, none, none, none] [] h) : xw G m_Answers_ln F L bc bs pr px 0 [some (.double x0), none, none, none, none, none, none, none, none, none, none, none] [] h := by
  refine x_dload_n d_Answers_ln_0 rfl rfl ?_
  refine x_dstore_n d_Answers_ln_1 rfl (by decide) trivial ?_
  show xw G m_Answers_ln F L bc bs pr px 2 [some (.double x0), none, some (.double x0), none, none, none, none, none, none, none, none, none] [] h
  refine x_iconst (v := 0) d_Answers_ln_2 (by decide) ?_
  refine x_istore d_Answers_ln_3 (by decide) trivial ?_
  show xw G m_Answers_ln F L bc bs pr px 5 [some (.double x0), none, some (.double x0), none, some (.int 0), none, none, none, none, none, none, none] [] h
  refine x_iconst (v := 0) d_Answers_ln_5 (by decide) ?_
  refine x_istore d_Answers_ln_6 (by decide) rfl ?_
  show xw G m_Answers_ln F L bc bs pr px 8 [some (.double x0), none, some (.double x0), none, some (.int 0), some (.int 0), none, none, none, none, none, none] [] h
  exact x_le (lv' := [none, none, some (.double x0), none, some (.int 0), some (.int 0), none, none, none, none, none, none]) (xw_le_n (xw_le_n (xw_le_s (xw_le_n (xw_le_s (xw_le_s (xw_le_n (xw_le_n (xw_le_n (xw_le_n (xw_le_n (xw_le_n xw_le_e)))))))))))) (k)
theorem s_Answers_ln_8 {G : xw_G} {F L bc bs : Nat} {pr : Option Value → xw_A → Prop} {px : String → xw_A → Prop} {h : xw_A} {x2 : UInt64} {x4 : Int32} {x5 : Int32}  (kt : 64 ≤ x5 → xw G m_Answers_ln F L bc bs pr px 38 [none, none, some (.double x2), none, some (.int x4), none, none, none, none, none, none, none] [] h) (kf : ¬ 64 ≤ x5 → xw G m_Answers_ln F L bc bs pr px 15 [none, none, some (.double x2), none, some (.int x4), some (.int x5), none, none, none, none, none, none] [] h) : xw G m_Answers_ln F L bc bs pr px 8 [none, none, some (.double x2), none, some (.int x4), some (.int x5), none, none, none, none, none, none] [] h := by
  refine x_iload d_Answers_ln_8 rfl ?_
  refine x_bipush (v := 64) d_Answers_ln_10 (by decide) ?_
  refine x_icmp_ge (tgt := 38) d_Answers_ln_12 (by decide) (fun hc => ?_) (fun hc => ?_)
  · exact x_le (lv' := [none, none, some (.double x2), none, some (.int x4), none, none, none, none, none, none, none]) (xw_le_n (xw_le_n (xw_le_s (xw_le_n (xw_le_s (xw_le_n (xw_le_n (xw_le_n (xw_le_n (xw_le_n (xw_le_n (xw_le_n xw_le_e)))))))))))) (kt hc)
  · exact kf hc
theorem s_Answers_ln_15 {G : xw_G} {F L bc bs : Nat} {pr : Option Value → xw_A → Prop} {px : String → xw_A → Prop} {h : xw_A} {x2 : UInt64} {x4 : Int32} {x5 : Int32}  (kt : (Op.cmpValue (FP.dcmp x2 4609434218613702656) .l) < 0 → xw G m_Answers_ln F L bc bs pr px 38 [none, none, some (.double x2), none, some (.int x4), none, none, none, none, none, none, none] [] h) (kf : ¬ (Op.cmpValue (FP.dcmp x2 4609434218613702656) .l) < 0 → xw G m_Answers_ln F L bc bs pr px 23 [none, none, some (.double x2), none, some (.int x4), some (.int x5), none, none, none, none, none, none] [] h) : xw G m_Answers_ln F L bc bs pr px 15 [none, none, some (.double x2), none, some (.int x4), some (.int x5), none, none, none, none, none, none] [] h := by
  refine x_dload_n d_Answers_ln_15 rfl rfl ?_
  refine x_ldc2d (v := 4609434218613702656) d_Answers_ln_16 (by decide +kernel) ?_
  refine x_dcmp d_Answers_ln_19 ?_
  refine x_if_lt (tgt := 38) d_Answers_ln_20 (by decide) (fun hc => ?_) (fun hc => ?_)
  · exact x_le (lv' := [none, none, some (.double x2), none, some (.int x4), none, none, none, none, none, none, none]) (xw_le_n (xw_le_n (xw_le_s (xw_le_n (xw_le_s (xw_le_n (xw_le_n (xw_le_n (xw_le_n (xw_le_n (xw_le_n (xw_le_n xw_le_e)))))))))))) (kt hc)
  · exact kf hc
theorem s_Answers_ln_23 {G : xw_G} {F L bc bs : Nat} {pr : Option Value → xw_A → Prop} {px : String → xw_A → Prop} {h : xw_A} {x2 : UInt64} {x4 : Int32} {x5 : Int32} (w_27 : vf_n64 (FP.ddiv x2 4611686018427387904)) (k : xw G m_Answers_ln F L bc bs pr px 8 [none, none, some (.double (FP.ddiv x2 4611686018427387904)), none, some (.int (x4 + 1)), some (.int (x5 + 1)), none, none, none, none, none, none] [] h) : xw G m_Answers_ln F L bc bs pr px 23 [none, none, some (.double x2), none, some (.int x4), some (.int x5), none, none, none, none, none, none] [] h := by
  refine x_dload_n d_Answers_ln_23 rfl rfl ?_
  refine x_ldc2d (v := 4611686018427387904) d_Answers_ln_24 (by decide +kernel) ?_
  refine x_ddiv d_Answers_ln_27 w_27 ?_
  refine x_dstore_n d_Answers_ln_28 rfl (by decide) trivial ?_
  show xw G m_Answers_ln F L bc bs pr px 29 [none, none, some (.double (FP.ddiv x2 4611686018427387904)), none, some (.int x4), some (.int x5), none, none, none, none, none, none] [] h
  refine x_iinc (v := x4 + 1) d_Answers_ln_29 rfl (by rfl) (by decide) trivial ?_
  show xw G m_Answers_ln F L bc bs pr px 32 [none, none, some (.double (FP.ddiv x2 4611686018427387904)), none, some (.int (x4 + 1)), some (.int x5), none, none, none, none, none, none] [] h
  refine x_iinc (v := x5 + 1) d_Answers_ln_32 rfl (by rfl) (by decide) rfl ?_
  show xw G m_Answers_ln F L bc bs pr px 35 [none, none, some (.double (FP.ddiv x2 4611686018427387904)), none, some (.int (x4 + 1)), some (.int (x5 + 1)), none, none, none, none, none, none] [] h
  refine x_goto (tgt := 8) d_Answers_ln_35 (by decide) ?_
  exact k
theorem s_Answers_ln_38 {G : xw_G} {F L bc bs : Nat} {pr : Option Value → xw_A → Prop} {px : String → xw_A → Prop} {h : xw_A} {x2 : UInt64} {x4 : Int32}  (k : xw G m_Answers_ln F L bc bs pr px 41 [none, none, some (.double x2), none, some (.int x4), some (.int 0), none, none, none, none, none, none] [] h) : xw G m_Answers_ln F L bc bs pr px 38 [none, none, some (.double x2), none, some (.int x4), none, none, none, none, none, none, none] [] h := by
  refine x_iconst (v := 0) d_Answers_ln_38 (by decide) ?_
  refine x_istore d_Answers_ln_39 (by decide) rfl ?_
  show xw G m_Answers_ln F L bc bs pr px 41 [none, none, some (.double x2), none, some (.int x4), some (.int 0), none, none, none, none, none, none] [] h
  exact k
theorem s_Answers_ln_41 {G : xw_G} {F L bc bs : Nat} {pr : Option Value → xw_A → Prop} {px : String → xw_A → Prop} {h : xw_A} {x2 : UInt64} {x4 : Int32} {x5 : Int32}  (kt : 64 ≤ x5 → xw G m_Answers_ln F L bc bs pr px 71 [none, none, some (.double x2), none, some (.int x4), none, none, none, none, none, none, none] [] h) (kf : ¬ 64 ≤ x5 → xw G m_Answers_ln F L bc bs pr px 48 [none, none, some (.double x2), none, some (.int x4), some (.int x5), none, none, none, none, none, none] [] h) : xw G m_Answers_ln F L bc bs pr px 41 [none, none, some (.double x2), none, some (.int x4), some (.int x5), none, none, none, none, none, none] [] h := by
  refine x_iload d_Answers_ln_41 rfl ?_
  refine x_bipush (v := 64) d_Answers_ln_43 (by decide) ?_
  refine x_icmp_ge (tgt := 71) d_Answers_ln_45 (by decide) (fun hc => ?_) (fun hc => ?_)
  · exact x_le (lv' := [none, none, some (.double x2), none, some (.int x4), none, none, none, none, none, none, none]) (xw_le_n (xw_le_n (xw_le_s (xw_le_n (xw_le_s (xw_le_n (xw_le_n (xw_le_n (xw_le_n (xw_le_n (xw_le_n (xw_le_n xw_le_e)))))))))))) (kt hc)
  · exact kf hc
theorem s_Answers_ln_48 {G : xw_G} {F L bc bs : Nat} {pr : Option Value → xw_A → Prop} {px : String → xw_A → Prop} {h : xw_A} {x2 : UInt64} {x4 : Int32} {x5 : Int32}  (kt : 0 ≤ (Op.cmpValue (FP.dcmp x2 4604930618986332160) .g) → xw G m_Answers_ln F L bc bs pr px 71 [none, none, some (.double x2), none, some (.int x4), none, none, none, none, none, none, none] [] h) (kf : ¬ 0 ≤ (Op.cmpValue (FP.dcmp x2 4604930618986332160) .g) → xw G m_Answers_ln F L bc bs pr px 56 [none, none, some (.double x2), none, some (.int x4), some (.int x5), none, none, none, none, none, none] [] h) : xw G m_Answers_ln F L bc bs pr px 48 [none, none, some (.double x2), none, some (.int x4), some (.int x5), none, none, none, none, none, none] [] h := by
  refine x_dload_n d_Answers_ln_48 rfl rfl ?_
  refine x_ldc2d (v := 4604930618986332160) d_Answers_ln_49 (by decide +kernel) ?_
  refine x_dcmp d_Answers_ln_52 ?_
  refine x_if_ge (tgt := 71) d_Answers_ln_53 (by decide) (fun hc => ?_) (fun hc => ?_)
  · exact x_le (lv' := [none, none, some (.double x2), none, some (.int x4), none, none, none, none, none, none, none]) (xw_le_n (xw_le_n (xw_le_s (xw_le_n (xw_le_s (xw_le_n (xw_le_n (xw_le_n (xw_le_n (xw_le_n (xw_le_n (xw_le_n xw_le_e)))))))))))) (kt hc)
  · exact kf hc
theorem s_Answers_ln_56 {G : xw_G} {F L bc bs : Nat} {pr : Option Value → xw_A → Prop} {px : String → xw_A → Prop} {h : xw_A} {x2 : UInt64} {x4 : Int32} {x5 : Int32} (w_60 : vf_n64 (FP.dmul x2 4611686018427387904)) (k : xw G m_Answers_ln F L bc bs pr px 41 [none, none, some (.double (FP.dmul x2 4611686018427387904)), none, some (.int (x4 + (-1))), some (.int (x5 + 1)), none, none, none, none, none, none] [] h) : xw G m_Answers_ln F L bc bs pr px 56 [none, none, some (.double x2), none, some (.int x4), some (.int x5), none, none, none, none, none, none] [] h := by
  refine x_dload_n d_Answers_ln_56 rfl rfl ?_
  refine x_ldc2d (v := 4611686018427387904) d_Answers_ln_57 (by decide +kernel) ?_
  refine x_dmul d_Answers_ln_60 w_60 ?_
  refine x_dstore_n d_Answers_ln_61 rfl (by decide) trivial ?_
  show xw G m_Answers_ln F L bc bs pr px 62 [none, none, some (.double (FP.dmul x2 4611686018427387904)), none, some (.int x4), some (.int x5), none, none, none, none, none, none] [] h
  refine x_iinc (v := x4 + (-1)) d_Answers_ln_62 rfl (by rfl) (by decide) trivial ?_
  show xw G m_Answers_ln F L bc bs pr px 65 [none, none, some (.double (FP.dmul x2 4611686018427387904)), none, some (.int (x4 + (-1))), some (.int x5), none, none, none, none, none, none] [] h
  refine x_iinc (v := x5 + 1) d_Answers_ln_65 rfl (by rfl) (by decide) rfl ?_
  show xw G m_Answers_ln F L bc bs pr px 68 [none, none, some (.double (FP.dmul x2 4611686018427387904)), none, some (.int (x4 + (-1))), some (.int (x5 + 1)), none, none, none, none, none, none] [] h
  refine x_goto (tgt := 41) d_Answers_ln_68 (by decide) ?_
  exact k
theorem s_Answers_ln_71 {G : xw_G} {F L bc bs : Nat} {pr : Option Value → xw_A → Prop} {px : String → xw_A → Prop} {h : xw_A} {x2 : UInt64} {x4 : Int32} (w_73 : vf_n64 (FP.dsub x2 FP.dconst1)) (w_76 : vf_n64 (FP.dadd x2 FP.dconst1)) (w_77 : vf_n64 (FP.ddiv (FP.dsub x2 FP.dconst1) (FP.dadd x2 FP.dconst1))) (w_84 : vf_n64 (FP.dmul (FP.ddiv (FP.dsub x2 FP.dconst1) (FP.dadd x2 FP.dconst1)) (FP.ddiv (FP.dsub x2 FP.dconst1) (FP.dadd x2 FP.dconst1)))) (k : xw G m_Answers_ln F L bc bs pr px 94 [none, none, none, none, some (.int x4), some (.double (FP.ddiv (FP.dsub x2 FP.dconst1) (FP.dadd x2 FP.dconst1))), none, some (.double (FP.dmul (FP.ddiv (FP.dsub x2 FP.dconst1) (FP.dadd x2 FP.dconst1)) (FP.ddiv (FP.dsub x2 FP.dconst1) (FP.dadd x2 FP.dconst1)))), none, some (.double FP.dconst0), none, some (.int 19)] [] h) : xw G m_Answers_ln F L bc bs pr px 71 [none, none, some (.double x2), none, some (.int x4), none, none, none, none, none, none, none] [] h := by
  refine x_dload_n d_Answers_ln_71 rfl rfl ?_
  refine x_dconst1 d_Answers_ln_72 ?_
  refine x_dsub d_Answers_ln_73 w_73 ?_
  refine x_dload_n d_Answers_ln_74 rfl rfl ?_
  refine x_dconst1 d_Answers_ln_75 ?_
  refine x_dadd d_Answers_ln_76 w_76 ?_
  refine x_ddiv d_Answers_ln_77 w_77 ?_
  refine x_dstore d_Answers_ln_78 (by decide) rfl ?_
  show xw G m_Answers_ln F L bc bs pr px 80 [none, none, some (.double x2), none, some (.int x4), some (.double (FP.ddiv (FP.dsub x2 FP.dconst1) (FP.dadd x2 FP.dconst1))), none, none, none, none, none, none] [] h
  refine x_dload d_Answers_ln_80 rfl ?_
  refine x_dload d_Answers_ln_82 rfl ?_
  refine x_dmul d_Answers_ln_84 w_84 ?_
  refine x_dstore d_Answers_ln_85 (by decide) trivial ?_
  show xw G m_Answers_ln F L bc bs pr px 87 [none, none, some (.double x2), none, some (.int x4), some (.double (FP.ddiv (FP.dsub x2 FP.dconst1) (FP.dadd x2 FP.dconst1))), none, some (.double (FP.dmul (FP.ddiv (FP.dsub x2 FP.dconst1) (FP.dadd x2 FP.dconst1)) (FP.ddiv (FP.dsub x2 FP.dconst1) (FP.dadd x2 FP.dconst1)))), none, none, none, none] [] h
  refine x_dconst0 d_Answers_ln_87 ?_
  refine x_dstore d_Answers_ln_88 (by decide) trivial ?_
  show xw G m_Answers_ln F L bc bs pr px 90 [none, none, some (.double x2), none, some (.int x4), some (.double (FP.ddiv (FP.dsub x2 FP.dconst1) (FP.dadd x2 FP.dconst1))), none, some (.double (FP.dmul (FP.ddiv (FP.dsub x2 FP.dconst1) (FP.dadd x2 FP.dconst1)) (FP.ddiv (FP.dsub x2 FP.dconst1) (FP.dadd x2 FP.dconst1)))), none, some (.double FP.dconst0), none, none] [] h
  refine x_bipush (v := 19) d_Answers_ln_90 (by decide) ?_
  refine x_istore d_Answers_ln_92 (by decide) trivial ?_
  show xw G m_Answers_ln F L bc bs pr px 94 [none, none, some (.double x2), none, some (.int x4), some (.double (FP.ddiv (FP.dsub x2 FP.dconst1) (FP.dadd x2 FP.dconst1))), none, some (.double (FP.dmul (FP.ddiv (FP.dsub x2 FP.dconst1) (FP.dadd x2 FP.dconst1)) (FP.ddiv (FP.dsub x2 FP.dconst1) (FP.dadd x2 FP.dconst1)))), none, some (.double FP.dconst0), none, some (.int 19)] [] h
  exact x_le (lv' := [none, none, none, none, some (.int x4), some (.double (FP.ddiv (FP.dsub x2 FP.dconst1) (FP.dadd x2 FP.dconst1))), none, some (.double (FP.dmul (FP.ddiv (FP.dsub x2 FP.dconst1) (FP.dadd x2 FP.dconst1)) (FP.ddiv (FP.dsub x2 FP.dconst1) (FP.dadd x2 FP.dconst1)))), none, some (.double FP.dconst0), none, some (.int 19)]) (xw_le_n (xw_le_n (xw_le_n (xw_le_n (xw_le_s (xw_le_s (xw_le_n (xw_le_s (xw_le_n (xw_le_s (xw_le_n (xw_le_s xw_le_e)))))))))))) (k)
theorem s_Answers_ln_94 {G : xw_G} {F L bc bs : Nat} {pr : Option Value → xw_A → Prop} {px : String → xw_A → Prop} {h : xw_A} {x4 : Int32} {x5 : UInt64} {x7 : UInt64} {x9 : UInt64} {x11 : Int32}  (kt : x11 < 1 → xw G m_Answers_ln F L bc bs pr px 119 [none, none, none, none, some (.int x4), some (.double x5), none, none, none, some (.double x9), none, none] [] h) (kf : ¬ x11 < 1 → xw G m_Answers_ln F L bc bs pr px 100 [none, none, none, none, some (.int x4), some (.double x5), none, some (.double x7), none, some (.double x9), none, some (.int x11)] [] h) : xw G m_Answers_ln F L bc bs pr px 94 [none, none, none, none, some (.int x4), some (.double x5), none, some (.double x7), none, some (.double x9), none, some (.int x11)] [] h := by
  refine x_iload d_Answers_ln_94 rfl ?_
  refine x_iconst (v := 1) d_Answers_ln_96 (by decide) ?_
  refine x_icmp_lt (tgt := 119) d_Answers_ln_97 (by decide) (fun hc => ?_) (fun hc => ?_)
  · exact x_le (lv' := [none, none, none, none, some (.int x4), some (.double x5), none, none, none, some (.double x9), none, none]) (xw_le_n (xw_le_n (xw_le_n (xw_le_n (xw_le_s (xw_le_s (xw_le_n (xw_le_n (xw_le_n (xw_le_s (xw_le_n (xw_le_n xw_le_e)))))))))))) (kt hc)
  · exact kf hc
theorem s_Answers_ln_100 {G : xw_G} {F L bc bs : Nat} {pr : Option Value → xw_A → Prop} {px : String → xw_A → Prop} {h : xw_A} {x4 : Int32} {x5 : UInt64} {x7 : UInt64} {x9 : UInt64} {x11 : Int32} (w_104 : vf_n64 (FP.dmul x9 x7)) (w_109 : vf_n64 (FP.ddiv FP.dconst1 (FP.i2d x11))) (w_110 : vf_n64 (FP.dadd (FP.dmul x9 x7) (FP.ddiv FP.dconst1 (FP.i2d x11)))) (k : xw G m_Answers_ln F L bc bs pr px 94 [none, none, none, none, some (.int x4), some (.double x5), none, some (.double x7), none, some (.double (FP.dadd (FP.dmul x9 x7) (FP.ddiv FP.dconst1 (FP.i2d x11)))), none, some (.int (x11 + (-2)))] [] h) : xw G m_Answers_ln F L bc bs pr px 100 [none, none, none, none, some (.int x4), some (.double x5), none, some (.double x7), none, some (.double x9), none, some (.int x11)] [] h := by
  refine x_dload d_Answers_ln_100 rfl ?_
  refine x_dload d_Answers_ln_102 rfl ?_
  refine x_dmul d_Answers_ln_104 w_104 ?_
  refine x_dconst1 d_Answers_ln_105 ?_
  refine x_iload d_Answers_ln_106 rfl ?_
  refine x_i2d d_Answers_ln_108 ?_
  refine x_ddiv d_Answers_ln_109 w_109 ?_
  refine x_dadd d_Answers_ln_110 w_110 ?_
  refine x_dstore d_Answers_ln_111 (by decide) trivial ?_
  show xw G m_Answers_ln F L bc bs pr px 113 [none, none, none, none, some (.int x4), some (.double x5), none, some (.double x7), none, some (.double (FP.dadd (FP.dmul x9 x7) (FP.ddiv FP.dconst1 (FP.i2d x11)))), none, some (.int x11)] [] h
  refine x_iinc (v := x11 + (-2)) d_Answers_ln_113 rfl (by rfl) (by decide) trivial ?_
  show xw G m_Answers_ln F L bc bs pr px 116 [none, none, none, none, some (.int x4), some (.double x5), none, some (.double x7), none, some (.double (FP.dadd (FP.dmul x9 x7) (FP.ddiv FP.dconst1 (FP.i2d x11)))), none, some (.int (x11 + (-2)))] [] h
  refine x_goto (tgt := 94) d_Answers_ln_116 (by decide) ?_
  exact k
theorem s_Answers_ln_119 {G : xw_G} {F L bc bs : Nat} {pr : Option Value → xw_A → Prop} {px : String → xw_A → Prop} {h : xw_A} {x4 : Int32} {x5 : UInt64} {x9 : UInt64} (w_124 : vf_n64 (FP.dmul 4611686018427387904 x5)) (w_127 : vf_n64 (FP.dmul (FP.dmul 4611686018427387904 x5) x9)) (w_134 : vf_n64 (FP.dmul (FP.i2d x4) 4604418534313441775)) (w_135 : vf_n64 (FP.dadd (FP.dmul (FP.dmul 4611686018427387904 x5) x9) (FP.dmul (FP.i2d x4) 4604418534313441775))) (kr : pr (some (.double (FP.dadd (FP.dmul (FP.dmul 4611686018427387904 x5) x9) (FP.dmul (FP.i2d x4) 4604418534313441775)))) h) : xw G m_Answers_ln F L bc bs pr px 119 [none, none, none, none, some (.int x4), some (.double x5), none, none, none, some (.double x9), none, none] [] h := by
  refine x_ldc2d (v := 4611686018427387904) d_Answers_ln_119 (by decide +kernel) ?_
  refine x_dload d_Answers_ln_122 rfl ?_
  refine x_dmul d_Answers_ln_124 w_124 ?_
  refine x_dload d_Answers_ln_125 rfl ?_
  refine x_dmul d_Answers_ln_127 w_127 ?_
  refine x_iload d_Answers_ln_128 rfl ?_
  refine x_i2d d_Answers_ln_130 ?_
  refine x_ldc2d (v := 4604418534313441775) d_Answers_ln_131 (by decide +kernel) ?_
  refine x_dmul d_Answers_ln_134 w_134 ?_
  refine x_dadd d_Answers_ln_135 w_135 ?_
  exact x_dret d_Answers_ln_136 rfl kr
theorem s_Answers_addPhrase_0 {G : xw_G} {F L bc bs : Nat} {pr : Option Value → xw_A → Prop} {px : String → xw_A → Prop} {h : xw_A} {a0 : Nat} {a1 : Nat} {x2 : Int32} {a3 : Nat} {x4 : UInt64} {x6 : UInt64}  (k : xw G m_Answers_addPhrase F L bc bs pr px 3 [some (.ref a0), some (.ref a1), some (.int x2), some (.ref a3), some (.double x4), none, some (.double x6), none, some (.int 0), none] [] h) : xw G m_Answers_addPhrase F L bc bs pr px 0 [some (.ref a0), some (.ref a1), some (.int x2), some (.ref a3), some (.double x4), none, some (.double x6), none, none, none] [] h := by
  refine x_iconst (v := 0) d_Answers_addPhrase_0 (by decide) ?_
  refine x_istore d_Answers_addPhrase_1 (by decide) trivial ?_
  show xw G m_Answers_addPhrase F L bc bs pr px 3 [some (.ref a0), some (.ref a1), some (.int x2), some (.ref a3), some (.double x4), none, some (.double x6), none, some (.int 0), none] [] h
  exact k
theorem s_Answers_addPhrase_3 {G : xw_G} {F L bc bs : Nat} {pr : Option Value → xw_A → Prop} {px : String → xw_A → Prop} {h : xw_A} {a0 : Nat} {a1 : Nat} {x2 : Int32} {a3 : Nat} {x4 : UInt64} {x6 : UInt64} {x8 : Int32} {rows_a0 : Option Nat} {scores_a0 : Option Nat} {size_a0 : Int32} {lengths_a0 : Option Nat} {order_a0 : Option Nat} (e_a0 : h a0 = some (.inr (1, [va_rf rows_a0, va_rf scores_a0, .int size_a0, va_rf lengths_a0, va_rf order_a0]))) (kt : size_a0 ≤ x8 → xw G m_Answers_addPhrase F L bc bs pr px 114 [none, none, none, none, none, none, none, none, none, none] [] h) (kf : ¬ size_a0 ≤ x8 → xw G m_Answers_addPhrase F L bc bs pr px 12 [some (.ref a0), some (.ref a1), some (.int x2), some (.ref a3), some (.double x4), none, some (.double x6), none, some (.int x8), none] [] h) : xw G m_Answers_addPhrase F L bc bs pr px 3 [some (.ref a0), some (.ref a1), some (.int x2), some (.ref a3), some (.double x4), none, some (.double x6), none, some (.int x8), none] [] h := by
  refine x_iload d_Answers_addPhrase_3 rfl ?_
  refine x_aload_n d_Answers_addPhrase_5 rfl rfl ?_
  refine x_get d_Answers_addPhrase_6 f_Answers_25 e_a0 rfl ?_
  refine x_icmp_ge (tgt := 114) d_Answers_addPhrase_9 (by decide) (fun hc => ?_) (fun hc => ?_)
  · exact x_le (lv' := [none, none, none, none, none, none, none, none, none, none]) (xw_le_n (xw_le_n (xw_le_n (xw_le_n (xw_le_n (xw_le_n (xw_le_n (xw_le_n (xw_le_n (xw_le_n xw_le_e)))))))))) (kt hc)
  · exact kf hc
theorem s_Answers_addPhrase_12 {G : xw_G} {F L bc bs : Nat} {pr : Option Value → xw_A → Prop} {px : String → xw_A → Prop} {h : xw_A} {a0 : Nat} {a1 : Nat} {x2 : Int32} {a3 : Nat} {x4 : UInt64} {x6 : UInt64} {x8 : Int32} {rows_a0 : Nat} {scores_a0 : Option Nat} {size_a0 : Int32} {lengths_a0 : Option Nat} {order_a0 : Option Nat} {n_rows_a0 : Nat} {f_rows_a0 : Nat → Int32} (e_a0 : h a0 = some (.inr (1, [.ref rows_a0, va_rf scores_a0, .int size_a0, va_rf lengths_a0, va_rf order_a0]))) (e_rows_a0 : h rows_a0 = some (.inl (0, n_rows_a0, .inl f_rows_a0))) (i_20 : vp_in x8 n_rows_a0) (k : xw G m_Answers_addPhrase F L bc bs pr px 22 [some (.ref a0), some (.ref a1), some (.int x2), some (.ref a3), some (.double x4), none, some (.double x6), none, some (.int x8), none] [.int 0, .int (f_rows_a0 x8.toNatClampNeg), .int x2, .ref a1] h) : xw G m_Answers_addPhrase F L bc bs pr px 12 [some (.ref a0), some (.ref a1), some (.int x2), some (.ref a3), some (.double x4), none, some (.double x6), none, some (.int x8), none] [] h := by
  refine x_aload_n d_Answers_addPhrase_12 rfl rfl ?_
  refine x_iload_n d_Answers_addPhrase_13 rfl rfl ?_
  refine x_aload_n d_Answers_addPhrase_14 rfl rfl ?_
  refine x_get d_Answers_addPhrase_15 f_Answers_9 e_a0 rfl ?_
  refine x_iload d_Answers_addPhrase_18 rfl ?_
  refine x_iald d_Answers_addPhrase_20 e_rows_a0 i_20 ?_
  refine x_iconst (v := 0) d_Answers_addPhrase_21 (by decide) ?_
  exact k
theorem s_Answers_addPhrase_28 {G : xw_G} {F L bc bs : Nat} {pr : Option Value → xw_A → Prop} {px : String → xw_A → Prop} {h : xw_A} {a0 : Nat} {a1 : Nat} {x2 : Int32} {a3 : Nat} {x4 : UInt64} {x6 : UInt64} {x8 : Int32} {y0 : Int32} {n_a3 : Nat} {f_a3 : Nat → Int32} {rows_a0 : Nat} {scores_a0 : Option Nat} {size_a0 : Int32} {lengths_a0 : Option Nat} {order_a0 : Option Nat} {n_rows_a0 : Nat} {f_rows_a0 : Nat → Int32} (e_a3 : h a3 = some (.inl (0, n_a3, .inl f_a3))) (i_30 : vp_in 0 n_a3) (e_a0 : h a0 = some (.inr (1, [.ref rows_a0, va_rf scores_a0, .int size_a0, va_rf lengths_a0, va_rf order_a0]))) (e_rows_a0 : h rows_a0 = some (.inl (0, n_rows_a0, .inl f_rows_a0))) (i_40 : vp_in x8 n_rows_a0) (k : xw G m_Answers_addPhrase F L bc bs pr px 42 [some (.ref a0), some (.ref a1), some (.int x2), some (.ref a3), some (.double x4), none, some (.double x6), none, some (.int x8), none] [.int 1, .int (f_rows_a0 x8.toNatClampNeg), .int x2, .ref a1, .int (y0 * (f_a3 (0 : Int32).toNatClampNeg))] h) : xw G m_Answers_addPhrase F L bc bs pr px 28 [some (.ref a0), some (.ref a1), some (.int x2), some (.ref a3), some (.double x4), none, some (.double x6), none, some (.int x8), none] [.int y0] h := by
  refine x_aload_n d_Answers_addPhrase_28 rfl rfl ?_
  refine x_iconst (v := 0) d_Answers_addPhrase_29 (by decide) ?_
  refine x_iald d_Answers_addPhrase_30 e_a3 i_30 ?_
  refine x_imul d_Answers_addPhrase_31 ?_
  refine x_aload_n d_Answers_addPhrase_32 rfl rfl ?_
  refine x_iload_n d_Answers_addPhrase_33 rfl rfl ?_
  refine x_aload_n d_Answers_addPhrase_34 rfl rfl ?_
  refine x_get d_Answers_addPhrase_35 f_Answers_9 e_a0 rfl ?_
  refine x_iload d_Answers_addPhrase_38 rfl ?_
  refine x_iald d_Answers_addPhrase_40 e_rows_a0 i_40 ?_
  refine x_iconst (v := 1) d_Answers_addPhrase_41 (by decide) ?_
  exact k
theorem s_Answers_addPhrase_48 {G : xw_G} {F L bc bs : Nat} {pr : Option Value → xw_A → Prop} {px : String → xw_A → Prop} {h : xw_A} {a0 : Nat} {a1 : Nat} {x2 : Int32} {a3 : Nat} {x4 : UInt64} {x6 : UInt64} {x8 : Int32} {y0 : Int32} {y1 : Int32} {n_a3 : Nat} {f_a3 : Nat → Int32} (e_a3 : h a3 = some (.inl (0, n_a3, .inl f_a3))) (i_50 : vp_in 1 n_a3) (kt : (y1 + (y0 * (f_a3 (1 : Int32).toNatClampNeg))) ≤ 0 → xw G m_Answers_addPhrase F L bc bs pr px 108 [some (.ref a0), some (.ref a1), some (.int x2), some (.ref a3), some (.double x4), none, some (.double x6), none, some (.int x8), none] [] h) (kf : ¬ (y1 + (y0 * (f_a3 (1 : Int32).toNatClampNeg))) ≤ 0 → xw G m_Answers_addPhrase F L bc bs pr px 60 [some (.ref a0), some (.ref a1), some (.int x2), some (.ref a3), some (.double x4), none, some (.double x6), none, some (.int x8), some (.int (y1 + (y0 * (f_a3 (1 : Int32).toNatClampNeg))))] [] h) : xw G m_Answers_addPhrase F L bc bs pr px 48 [some (.ref a0), some (.ref a1), some (.int x2), some (.ref a3), some (.double x4), none, some (.double x6), none, some (.int x8), none] [.int y0, .int y1] h := by
  refine x_aload_n d_Answers_addPhrase_48 rfl rfl ?_
  refine x_iconst (v := 1) d_Answers_addPhrase_49 (by decide) ?_
  refine x_iald d_Answers_addPhrase_50 e_a3 i_50 ?_
  refine x_imul d_Answers_addPhrase_51 ?_
  refine x_iadd d_Answers_addPhrase_52 ?_
  refine x_istore d_Answers_addPhrase_53 (by decide) rfl ?_
  show xw G m_Answers_addPhrase F L bc bs pr px 55 [some (.ref a0), some (.ref a1), some (.int x2), some (.ref a3), some (.double x4), none, some (.double x6), none, some (.int x8), some (.int (y1 + (y0 * (f_a3 (1 : Int32).toNatClampNeg))))] [] h
  refine x_iload d_Answers_addPhrase_55 rfl ?_
  refine x_if_le (tgt := 108) d_Answers_addPhrase_57 (by decide) (fun hc => ?_) (fun hc => ?_)
  · exact x_le (lv' := [some (.ref a0), some (.ref a1), some (.int x2), some (.ref a3), some (.double x4), none, some (.double x6), none, some (.int x8), none]) (xw_le_s (xw_le_s (xw_le_s (xw_le_s (xw_le_s (xw_le_n (xw_le_s (xw_le_n (xw_le_s (xw_le_n xw_le_e)))))))))) (kt hc)
  · exact kf hc
theorem s_Answers_addPhrase_60 {G : xw_G} {F L bc bs : Nat} {pr : Option Value → xw_A → Prop} {px : String → xw_A → Prop} {h : xw_A} {a0 : Nat} {a1 : Nat} {x2 : Int32} {a3 : Nat} {x4 : UInt64} {x6 : UInt64} {x8 : Int32} {x9 : Int32} {rows_a0 : Option Nat} {scores_a0 : Nat} {size_a0 : Int32} {lengths_a0 : Nat} {order_a0 : Option Nat} {n_scores_a0 : Nat} {f_scores_a0 : Nat → UInt64} {n_lengths_a0 : Nat} {f_lengths_a0 : Nat → Int32} (e_a0 : h a0 = some (.inr (1, [va_rf rows_a0, .ref scores_a0, .int size_a0, .ref lengths_a0, va_rf order_a0]))) (e_scores_a0 : h scores_a0 = some (.inl (3, n_scores_a0, .inr (.inr (.inr (.inl f_scores_a0)))))) (i_67 : vp_in x8 n_scores_a0) (w_76 : vf_n64 (FP.dmul (FP.i2d x9) 4612136378390124954)) (w_77 : vf_n64 (FP.dmul x4 (FP.dmul (FP.i2d x9) 4612136378390124954))) (e_lengths_a0 : h lengths_a0 = some (.inl (0, n_lengths_a0, .inl f_lengths_a0))) (i_96 : vp_in x8 n_lengths_a0) (w_98 : vf_n64 (FP.dmul 4604930618986332160 (FP.i2d (f_lengths_a0 x8.toNatClampNeg)))) (w_101 : vf_n64 (FP.ddiv (FP.dmul 4604930618986332160 (FP.i2d (f_lengths_a0 x8.toNatClampNeg))) x6)) (w_102 : vf_n64 (FP.dadd 4598175219545276416 (FP.ddiv (FP.dmul 4604930618986332160 (FP.i2d (f_lengths_a0 x8.toNatClampNeg))) x6))) (w_103 : vf_n64 (FP.dmul 4608083138725491507 (FP.dadd 4598175219545276416 (FP.ddiv (FP.dmul 4604930618986332160 (FP.i2d (f_lengths_a0 x8.toNatClampNeg))) x6)))) (w_104 : vf_n64 (FP.dadd (FP.i2d x9) (FP.dmul 4608083138725491507 (FP.dadd 4598175219545276416 (FP.ddiv (FP.dmul 4604930618986332160 (FP.i2d (f_lengths_a0 x8.toNatClampNeg))) x6))))) (w_105 : vf_n64 (FP.ddiv (FP.dmul x4 (FP.dmul (FP.i2d x9) 4612136378390124954)) (FP.dadd (FP.i2d x9) (FP.dmul 4608083138725491507 (FP.dadd 4598175219545276416 (FP.ddiv (FP.dmul 4604930618986332160 (FP.i2d (f_lengths_a0 x8.toNatClampNeg))) x6)))))) (w_106 : vf_n64 (FP.dadd (f_scores_a0 x8.toNatClampNeg) (FP.ddiv (FP.dmul x4 (FP.dmul (FP.i2d x9) 4612136378390124954)) (FP.dadd (FP.i2d x9) (FP.dmul 4608083138725491507 (FP.dadd 4598175219545276416 (FP.ddiv (FP.dmul 4604930618986332160 (FP.i2d (f_lengths_a0 x8.toNatClampNeg))) x6))))))) (i_107 : vp_in x8 n_scores_a0) (k : xw G m_Answers_addPhrase F L bc bs pr px 108 [some (.ref a0), some (.ref a1), some (.int x2), some (.ref a3), some (.double x4), none, some (.double x6), none, some (.int x8), none] [] (xw_up h scores_a0 (.inl (3, n_scores_a0, .inr (.inr (.inr (.inl (vf_upd f_scores_a0 (x8).toNatClampNeg (FP.dadd (f_scores_a0 x8.toNatClampNeg) (FP.ddiv (FP.dmul x4 (FP.dmul (FP.i2d x9) 4612136378390124954)) (FP.dadd (FP.i2d x9) (FP.dmul 4608083138725491507 (FP.dadd 4598175219545276416 (FP.ddiv (FP.dmul 4604930618986332160 (FP.i2d (f_lengths_a0 x8.toNatClampNeg))) x6)))))))))))))) : xw G m_Answers_addPhrase F L bc bs pr px 60 [some (.ref a0), some (.ref a1), some (.int x2), some (.ref a3), some (.double x4), none, some (.double x6), none, some (.int x8), some (.int x9)] [] h := by
  refine x_aload_n d_Answers_addPhrase_60 rfl rfl ?_
  refine x_get d_Answers_addPhrase_61 f_Answers_15 e_a0 rfl ?_
  refine x_iload d_Answers_addPhrase_64 rfl ?_
  refine x_dup2 d_Answers_addPhrase_66 rfl rfl ?_
  refine x_dald d_Answers_addPhrase_67 e_scores_a0 i_67 ?_
  refine x_dload d_Answers_addPhrase_68 rfl ?_
  refine x_iload d_Answers_addPhrase_70 rfl ?_
  refine x_i2d d_Answers_addPhrase_72 ?_
  refine x_ldc2d (v := 4612136378390124954) d_Answers_addPhrase_73 (by decide +kernel) ?_
  refine x_dmul d_Answers_addPhrase_76 w_76 ?_
  refine x_dmul d_Answers_addPhrase_77 w_77 ?_
  refine x_iload d_Answers_addPhrase_78 rfl ?_
  refine x_i2d d_Answers_addPhrase_80 ?_
  refine x_ldc2d (v := 4608083138725491507) d_Answers_addPhrase_81 (by decide +kernel) ?_
  refine x_ldc2d (v := 4598175219545276416) d_Answers_addPhrase_84 (by decide +kernel) ?_
  refine x_ldc2d (v := 4604930618986332160) d_Answers_addPhrase_87 (by decide +kernel) ?_
  refine x_aload_n d_Answers_addPhrase_90 rfl rfl ?_
  refine x_get d_Answers_addPhrase_91 f_Answers_19 e_a0 rfl ?_
  refine x_iload d_Answers_addPhrase_94 rfl ?_
  refine x_iald d_Answers_addPhrase_96 e_lengths_a0 i_96 ?_
  refine x_i2d d_Answers_addPhrase_97 ?_
  refine x_dmul d_Answers_addPhrase_98 w_98 ?_
  refine x_dload d_Answers_addPhrase_99 rfl ?_
  refine x_ddiv d_Answers_addPhrase_101 w_101 ?_
  refine x_dadd d_Answers_addPhrase_102 w_102 ?_
  refine x_dmul d_Answers_addPhrase_103 w_103 ?_
  refine x_dadd d_Answers_addPhrase_104 w_104 ?_
  refine x_ddiv d_Answers_addPhrase_105 w_105 ?_
  refine x_dadd d_Answers_addPhrase_106 w_106 ?_
  refine x_dast d_Answers_addPhrase_107 e_scores_a0 i_107 ?_
  exact x_le (lv' := [some (.ref a0), some (.ref a1), some (.int x2), some (.ref a3), some (.double x4), none, some (.double x6), none, some (.int x8), none]) (xw_le_s (xw_le_s (xw_le_s (xw_le_s (xw_le_s (xw_le_n (xw_le_s (xw_le_n (xw_le_s (xw_le_n xw_le_e)))))))))) (k)
theorem s_Answers_addPhrase_108 {G : xw_G} {F L bc bs : Nat} {pr : Option Value → xw_A → Prop} {px : String → xw_A → Prop} {h : xw_A} {a0 : Nat} {a1 : Nat} {x2 : Int32} {a3 : Nat} {x4 : UInt64} {x6 : UInt64} {x8 : Int32}  (k : xw G m_Answers_addPhrase F L bc bs pr px 3 [some (.ref a0), some (.ref a1), some (.int x2), some (.ref a3), some (.double x4), none, some (.double x6), none, some (.int (x8 + 1)), none] [] h) : xw G m_Answers_addPhrase F L bc bs pr px 108 [some (.ref a0), some (.ref a1), some (.int x2), some (.ref a3), some (.double x4), none, some (.double x6), none, some (.int x8), none] [] h := by
  refine x_iinc (v := x8 + 1) d_Answers_addPhrase_108 rfl (by rfl) (by decide) trivial ?_
  show xw G m_Answers_addPhrase F L bc bs pr px 111 [some (.ref a0), some (.ref a1), some (.int x2), some (.ref a3), some (.double x4), none, some (.double x6), none, some (.int (x8 + 1)), none] [] h
  refine x_goto (tgt := 3) d_Answers_addPhrase_111 (by decide) ?_
  exact k
theorem s_Answers_addPhrase_114 {G : xw_G} {F L bc bs : Nat} {pr : Option Value → xw_A → Prop} {px : String → xw_A → Prop} {h : xw_A}   (kr : pr none h) : xw G m_Answers_addPhrase F L bc bs pr px 114 [none, none, none, none, none, none, none, none, none, none] [] h := by
  exact x_vret d_Answers_addPhrase_114 rfl kr
theorem s_Answers_sort_0 {G : xw_G} {F L bc bs : Nat} {pr : Option Value → xw_A → Prop} {px : String → xw_A → Prop} {h : xw_A} {a0 : Nat}  (k : xw G m_Answers_sort F L bc bs pr px 2 [some (.ref a0), some (.int 0), none] [] h) : xw G m_Answers_sort F L bc bs pr px 0 [some (.ref a0), none, none] [] h := by
  refine x_iconst (v := 0) d_Answers_sort_0 (by decide) ?_
  refine x_istore_n d_Answers_sort_1 rfl (by decide) rfl ?_
  show xw G m_Answers_sort F L bc bs pr px 2 [some (.ref a0), some (.int 0), none] [] h
  exact k
theorem s_Answers_sort_2 {G : xw_G} {F L bc bs : Nat} {pr : Option Value → xw_A → Prop} {px : String → xw_A → Prop} {h : xw_A} {a0 : Nat} {x1 : Int32} {rows_a0 : Option Nat} {scores_a0 : Option Nat} {size_a0 : Int32} {lengths_a0 : Option Nat} {order_a0 : Option Nat} (e_a0 : h a0 = some (.inr (1, [va_rf rows_a0, va_rf scores_a0, .int size_a0, va_rf lengths_a0, va_rf order_a0]))) (kt : size_a0 ≤ x1 → xw G m_Answers_sort F L bc bs pr px 72 [none, none, none] [] h) (kf : ¬ size_a0 ≤ x1 → xw G m_Answers_sort F L bc bs pr px 10 [some (.ref a0), some (.int x1), none] [] h) : xw G m_Answers_sort F L bc bs pr px 2 [some (.ref a0), some (.int x1), none] [] h := by
  refine x_iload_n d_Answers_sort_2 rfl rfl ?_
  refine x_aload_n d_Answers_sort_3 rfl rfl ?_
  refine x_get d_Answers_sort_4 f_Answers_25 e_a0 rfl ?_
  refine x_icmp_ge (tgt := 72) d_Answers_sort_7 (by decide) (fun hc => ?_) (fun hc => ?_)
  · exact x_le (lv' := [none, none, none]) (xw_le_n (xw_le_n (xw_le_n xw_le_e))) (kt hc)
  · exact kf hc
theorem s_Answers_sort_10 {G : xw_G} {F L bc bs : Nat} {pr : Option Value → xw_A → Prop} {px : String → xw_A → Prop} {h : xw_A} {a0 : Nat} {x1 : Int32}  (k : xw G m_Answers_sort F L bc bs pr px 12 [some (.ref a0), some (.int x1), some (.int x1)] [] h) : xw G m_Answers_sort F L bc bs pr px 10 [some (.ref a0), some (.int x1), none] [] h := by
  refine x_iload_n d_Answers_sort_10 rfl rfl ?_
  refine x_istore_n d_Answers_sort_11 rfl (by decide) rfl ?_
  show xw G m_Answers_sort F L bc bs pr px 12 [some (.ref a0), some (.int x1), some (.int x1)] [] h
  exact k
theorem s_Answers_sort_12 {G : xw_G} {F L bc bs : Nat} {pr : Option Value → xw_A → Prop} {px : String → xw_A → Prop} {h : xw_A} {a0 : Nat} {x1 : Int32} {x2 : Int32}  (kt : x2 ≤ 0 → xw G m_Answers_sort F L bc bs pr px 59 [some (.ref a0), some (.int x1), some (.int x2)] [] h) (kf : ¬ x2 ≤ 0 → xw G m_Answers_sort F L bc bs pr px 16 [some (.ref a0), some (.int x1), some (.int x2)] [] h) : xw G m_Answers_sort F L bc bs pr px 12 [some (.ref a0), some (.int x1), some (.int x2)] [] h := by
  refine x_iload_n d_Answers_sort_12 rfl rfl ?_
  refine x_if_le (tgt := 59) d_Answers_sort_13 (by decide) (fun hc => ?_) (fun hc => ?_)
  · exact kt hc
  · exact kf hc
theorem s_Answers_sort_16 {G : xw_G} {F L bc bs : Nat} {pr : Option Value → xw_A → Prop} {px : String → xw_A → Prop} {h : xw_A} {a0 : Nat} {x1 : Int32} {x2 : Int32} {rows_a0 : Option Nat} {scores_a0 : Nat} {size_a0 : Int32} {lengths_a0 : Option Nat} {order_a0 : Nat} {n_order_a0 : Nat} {f_order_a0 : Nat → Int32} {n_scores_a0 : Nat} {f_scores_a0 : Nat → UInt64} (e_a0 : h a0 = some (.inr (1, [va_rf rows_a0, .ref scores_a0, .int size_a0, va_rf lengths_a0, .ref order_a0]))) (e_order_a0 : h order_a0 = some (.inl (0, n_order_a0, .inl f_order_a0))) (i_27 : vp_in (x2 - 1) n_order_a0) (e_scores_a0 : h scores_a0 = some (.inl (3, n_scores_a0, .inr (.inr (.inr (.inl f_scores_a0)))))) (i_28 : vp_in (f_order_a0 (x2 - 1).toNatClampNeg) n_scores_a0) (i_34 : vp_in x1 n_scores_a0) (kt : 0 ≤ (Op.cmpValue (FP.dcmp (f_scores_a0 (f_order_a0 (x2 - 1).toNatClampNeg).toNatClampNeg) (f_scores_a0 x1.toNatClampNeg)) .g) → xw G m_Answers_sort F L bc bs pr px 59 [some (.ref a0), some (.int x1), some (.int x2)] [] h) (kf : ¬ 0 ≤ (Op.cmpValue (FP.dcmp (f_scores_a0 (f_order_a0 (x2 - 1).toNatClampNeg).toNatClampNeg) (f_scores_a0 x1.toNatClampNeg)) .g) → xw G m_Answers_sort F L bc bs pr px 39 [some (.ref a0), some (.int x1), some (.int x2)] [] h) : xw G m_Answers_sort F L bc bs pr px 16 [some (.ref a0), some (.int x1), some (.int x2)] [] h := by
  refine x_aload_n d_Answers_sort_16 rfl rfl ?_
  refine x_get d_Answers_sort_17 f_Answers_15 e_a0 rfl ?_
  refine x_aload_n d_Answers_sort_20 rfl rfl ?_
  refine x_get d_Answers_sort_21 f_Answers_22 e_a0 rfl ?_
  refine x_iload_n d_Answers_sort_24 rfl rfl ?_
  refine x_iconst (v := 1) d_Answers_sort_25 (by decide) ?_
  refine x_isub d_Answers_sort_26 ?_
  refine x_iald d_Answers_sort_27 e_order_a0 i_27 ?_
  refine x_dald d_Answers_sort_28 e_scores_a0 i_28 ?_
  refine x_aload_n d_Answers_sort_29 rfl rfl ?_
  refine x_get d_Answers_sort_30 f_Answers_15 e_a0 rfl ?_
  refine x_iload_n d_Answers_sort_33 rfl rfl ?_
  refine x_dald d_Answers_sort_34 e_scores_a0 i_34 ?_
  refine x_dcmp d_Answers_sort_35 ?_
  refine x_if_ge (tgt := 59) d_Answers_sort_36 (by decide) (fun hc => ?_) (fun hc => ?_)
  · exact kt hc
  · exact kf hc
theorem s_Answers_sort_39 {G : xw_G} {F L bc bs : Nat} {pr : Option Value → xw_A → Prop} {px : String → xw_A → Prop} {h : xw_A} {a0 : Nat} {x1 : Int32} {x2 : Int32} {rows_a0 : Option Nat} {scores_a0 : Option Nat} {size_a0 : Int32} {lengths_a0 : Option Nat} {order_a0 : Nat} {n_order_a0 : Nat} {f_order_a0 : Nat → Int32} (e_a0 : h a0 = some (.inr (1, [va_rf rows_a0, va_rf scores_a0, .int size_a0, va_rf lengths_a0, .ref order_a0]))) (e_order_a0 : h order_a0 = some (.inl (0, n_order_a0, .inl f_order_a0))) (i_51 : vp_in (x2 - 1) n_order_a0) (i_52 : vp_in x2 n_order_a0) (k : xw G m_Answers_sort F L bc bs pr px 12 [some (.ref a0), some (.int x1), some (.int (x2 + (-1)))] [] (xw_up h order_a0 (.inl (0, n_order_a0, .inl (upd f_order_a0 (x2).toNatClampNeg (f_order_a0 (x2 - 1).toNatClampNeg)))))) : xw G m_Answers_sort F L bc bs pr px 39 [some (.ref a0), some (.int x1), some (.int x2)] [] h := by
  refine x_aload_n d_Answers_sort_39 rfl rfl ?_
  refine x_get d_Answers_sort_40 f_Answers_22 e_a0 rfl ?_
  refine x_iload_n d_Answers_sort_43 rfl rfl ?_
  refine x_aload_n d_Answers_sort_44 rfl rfl ?_
  refine x_get d_Answers_sort_45 f_Answers_22 e_a0 rfl ?_
  refine x_iload_n d_Answers_sort_48 rfl rfl ?_
  refine x_iconst (v := 1) d_Answers_sort_49 (by decide) ?_
  refine x_isub d_Answers_sort_50 ?_
  refine x_iald d_Answers_sort_51 e_order_a0 i_51 ?_
  refine x_iast d_Answers_sort_52 e_order_a0 i_52 ?_
  refine x_iinc (v := x2 + (-1)) d_Answers_sort_53 rfl (by rfl) (by decide) rfl ?_
  show xw G m_Answers_sort F L bc bs pr px 56 [some (.ref a0), some (.int x1), some (.int (x2 + (-1)))] [] (xw_up h order_a0 (.inl (0, n_order_a0, .inl (upd f_order_a0 (x2).toNatClampNeg (f_order_a0 (x2 - 1).toNatClampNeg)))))
  refine x_goto (tgt := 12) d_Answers_sort_56 (by decide) ?_
  exact k
theorem s_Answers_sort_59 {G : xw_G} {F L bc bs : Nat} {pr : Option Value → xw_A → Prop} {px : String → xw_A → Prop} {h : xw_A} {a0 : Nat} {x1 : Int32} {x2 : Int32} {rows_a0 : Option Nat} {scores_a0 : Option Nat} {size_a0 : Int32} {lengths_a0 : Option Nat} {order_a0 : Nat} {n_order_a0 : Nat} {f_order_a0 : Nat → Int32} (e_a0 : h a0 = some (.inr (1, [va_rf rows_a0, va_rf scores_a0, .int size_a0, va_rf lengths_a0, .ref order_a0]))) (e_order_a0 : h order_a0 = some (.inl (0, n_order_a0, .inl f_order_a0))) (i_65 : vp_in x2 n_order_a0) (k : xw G m_Answers_sort F L bc bs pr px 2 [some (.ref a0), some (.int (x1 + 1)), none] [] (xw_up h order_a0 (.inl (0, n_order_a0, .inl (upd f_order_a0 (x2).toNatClampNeg x1))))) : xw G m_Answers_sort F L bc bs pr px 59 [some (.ref a0), some (.int x1), some (.int x2)] [] h := by
  refine x_aload_n d_Answers_sort_59 rfl rfl ?_
  refine x_get d_Answers_sort_60 f_Answers_22 e_a0 rfl ?_
  refine x_iload_n d_Answers_sort_63 rfl rfl ?_
  refine x_iload_n d_Answers_sort_64 rfl rfl ?_
  refine x_iast d_Answers_sort_65 e_order_a0 i_65 ?_
  refine x_iinc (v := x1 + 1) d_Answers_sort_66 rfl (by rfl) (by decide) rfl ?_
  show xw G m_Answers_sort F L bc bs pr px 69 [some (.ref a0), some (.int (x1 + 1)), some (.int x2)] [] (xw_up h order_a0 (.inl (0, n_order_a0, .inl (upd f_order_a0 (x2).toNatClampNeg x1))))
  refine x_goto (tgt := 2) d_Answers_sort_69 (by decide) ?_
  exact x_le (lv' := [some (.ref a0), some (.int (x1 + 1)), none]) (xw_le_s (xw_le_s (xw_le_n xw_le_e))) (k)
theorem s_Answers_sort_72 {G : xw_G} {F L bc bs : Nat} {pr : Option Value → xw_A → Prop} {px : String → xw_A → Prop} {h : xw_A}   (kr : pr none h) : xw G m_Answers_sort F L bc bs pr px 72 [none, none, none] [] h := by
  exact x_vret d_Answers_sort_72 rfl kr
theorem s_Answers_has_0 {G : xw_G} {F L bc bs : Nat} {pr : Option Value → xw_A → Prop} {px : String → xw_A → Prop} {h : xw_A} {a0 : Nat} {x1 : Int32}  (kt : x1 < 0 → xw G m_Answers_has F L bc bs pr px 16 [none, none] [] h) (kf : ¬ x1 < 0 → xw G m_Answers_has F L bc bs pr px 4 [some (.ref a0), some (.int x1)] [] h) : xw G m_Answers_has F L bc bs pr px 0 [some (.ref a0), some (.int x1)] [] h := by
  refine x_iload_n d_Answers_has_0 rfl rfl ?_
  refine x_if_lt (tgt := 16) d_Answers_has_1 (by decide) (fun hc => ?_) (fun hc => ?_)
  · exact x_le (lv' := [none, none]) (xw_le_n (xw_le_n xw_le_e)) (kt hc)
  · exact kf hc
theorem s_Answers_has_4 {G : xw_G} {F L bc bs : Nat} {pr : Option Value → xw_A → Prop} {px : String → xw_A → Prop} {h : xw_A} {a0 : Nat} {x1 : Int32} {rows_a0 : Option Nat} {scores_a0 : Option Nat} {size_a0 : Int32} {lengths_a0 : Option Nat} {order_a0 : Option Nat} (e_a0 : h a0 = some (.inr (1, [va_rf rows_a0, va_rf scores_a0, .int size_a0, va_rf lengths_a0, va_rf order_a0]))) (kt : size_a0 ≤ x1 → xw G m_Answers_has F L bc bs pr px 16 [none, none] [] h) (kf : ¬ size_a0 ≤ x1 → xw G m_Answers_has F L bc bs pr px 12 [none, none] [] h) : xw G m_Answers_has F L bc bs pr px 4 [some (.ref a0), some (.int x1)] [] h := by
  refine x_iload_n d_Answers_has_4 rfl rfl ?_
  refine x_aload_n d_Answers_has_5 rfl rfl ?_
  refine x_get d_Answers_has_6 f_Answers_25 e_a0 rfl ?_
  refine x_icmp_ge (tgt := 16) d_Answers_has_9 (by decide) (fun hc => ?_) (fun hc => ?_)
  · exact x_le (lv' := [none, none]) (xw_le_n (xw_le_n xw_le_e)) (kt hc)
  · exact x_le (lv' := [none, none]) (xw_le_n (xw_le_n xw_le_e)) (kf hc)
theorem s_Answers_has_12 {G : xw_G} {F L bc bs : Nat} {pr : Option Value → xw_A → Prop} {px : String → xw_A → Prop} {h : xw_A}   (k : xw G m_Answers_has F L bc bs pr px 17 [none, none] [.int 1] h) : xw G m_Answers_has F L bc bs pr px 12 [none, none] [] h := by
  refine x_iconst (v := 1) d_Answers_has_12 (by decide) ?_
  refine x_goto (tgt := 17) d_Answers_has_13 (by decide) ?_
  exact k
theorem s_Answers_has_16 {G : xw_G} {F L bc bs : Nat} {pr : Option Value → xw_A → Prop} {px : String → xw_A → Prop} {h : xw_A}   (k : xw G m_Answers_has F L bc bs pr px 17 [none, none] [.int 0] h) : xw G m_Answers_has F L bc bs pr px 16 [none, none] [] h := by
  refine x_iconst (v := 0) d_Answers_has_16 (by decide) ?_
  exact k
theorem s_Answers_has_17 {G : xw_G} {F L bc bs : Nat} {pr : Option Value → xw_A → Prop} {px : String → xw_A → Prop} {h : xw_A} {y0 : Int32} (w_17 : narrow .boolean (.int y0) = .int y0) (kr : pr (some (.int y0)) h) : xw G m_Answers_has F L bc bs pr px 17 [none, none] [.int y0] h := by
  exact x_zret d_Answers_has_17 rfl w_17 kr
theorem s_Answers_place_0 {G : xw_G} {F L bc bs : Nat} {pr : Option Value → xw_A → Prop} {px : String → xw_A → Prop} {h : xw_A} {a0 : Nat} {x1 : Int32} {x2 : Int32}  (kt : x2 = 0 → xw G m_Answers_place F L bc bs pr px 13 [none, some (.int x1), none] [] h) (kf : ¬ x2 = 0 → xw G m_Answers_place F L bc bs pr px 4 [some (.ref a0), some (.int x1), none] [] h) : xw G m_Answers_place F L bc bs pr px 0 [some (.ref a0), some (.int x1), some (.int x2)] [] h := by
  refine x_iload_n d_Answers_place_0 rfl rfl ?_
  refine x_if_eq (tgt := 13) d_Answers_place_1 (by decide) (fun hc => ?_) (fun hc => ?_)
  · exact x_le (lv' := [none, some (.int x1), none]) (xw_le_n (xw_le_s (xw_le_n xw_le_e))) (kt hc)
  · exact x_le (lv' := [some (.ref a0), some (.int x1), none]) (xw_le_s (xw_le_s (xw_le_n xw_le_e))) (kf hc)
theorem s_Answers_place_4 {G : xw_G} {F L bc bs : Nat} {pr : Option Value → xw_A → Prop} {px : String → xw_A → Prop} {h : xw_A} {a0 : Nat} {x1 : Int32} {rows_a0 : Option Nat} {scores_a0 : Option Nat} {size_a0 : Int32} {lengths_a0 : Option Nat} {order_a0 : Nat} {n_order_a0 : Nat} {f_order_a0 : Nat → Int32} (e_a0 : h a0 = some (.inr (1, [va_rf rows_a0, va_rf scores_a0, .int size_a0, va_rf lengths_a0, .ref order_a0]))) (e_order_a0 : h order_a0 = some (.inl (0, n_order_a0, .inl f_order_a0))) (i_9 : vp_in x1 n_order_a0) (k : xw G m_Answers_place F L bc bs pr px 14 [none, none, none] [.int (f_order_a0 x1.toNatClampNeg)] h) : xw G m_Answers_place F L bc bs pr px 4 [some (.ref a0), some (.int x1), none] [] h := by
  refine x_aload_n d_Answers_place_4 rfl rfl ?_
  refine x_get d_Answers_place_5 f_Answers_22 e_a0 rfl ?_
  refine x_iload_n d_Answers_place_8 rfl rfl ?_
  refine x_iald d_Answers_place_9 e_order_a0 i_9 ?_
  refine x_goto (tgt := 14) d_Answers_place_10 (by decide) ?_
  exact x_le (lv' := [none, none, none]) (xw_le_n (xw_le_n (xw_le_n xw_le_e))) (k)
theorem s_Answers_place_13 {G : xw_G} {F L bc bs : Nat} {pr : Option Value → xw_A → Prop} {px : String → xw_A → Prop} {h : xw_A} {x1 : Int32}  (k : xw G m_Answers_place F L bc bs pr px 14 [none, none, none] [.int x1] h) : xw G m_Answers_place F L bc bs pr px 13 [none, some (.int x1), none] [] h := by
  refine x_iload_n d_Answers_place_13 rfl rfl ?_
  exact x_le (lv' := [none, none, none]) (xw_le_n (xw_le_n (xw_le_n xw_le_e))) (k)
theorem s_Answers_place_14 {G : xw_G} {F L bc bs : Nat} {pr : Option Value → xw_A → Prop} {px : String → xw_A → Prop} {h : xw_A} {y0 : Int32}  (kr : pr (some (.int y0)) h) : xw G m_Answers_place F L bc bs pr px 14 [none, none, none] [.int y0] h := by
  exact x_iret d_Answers_place_14 rfl kr
