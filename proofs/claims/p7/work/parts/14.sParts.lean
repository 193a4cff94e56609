/-! blocks of Parts: by program -/
theorem s_Parts_init_0 {G : xw_G} {F L bc bs : Nat} {pr : Option Value → xw_A → Prop} {px : String → xw_A → Prop} {h : xw_A} {a0 : Nat} {kinds_a0 : Option Nat} {starts_a0 : Option Nat} {ends_a0 : Option Nat} {letters_a0 : Option Nat} {length_a0 : Int32} (r_1 : 1 ≤ F ∧ 0 + 12 ≤ L) (u_7 : 1 ≤ bc ∧ 97 ≤ bs) (e_a0 : h a0 = some (.inr (3, [va_rf kinds_a0, va_rf starts_a0, va_rf ends_a0, va_rf letters_a0, .int length_a0]))) (u_15 : 1 ≤ (bc - 1) ∧ 97 ≤ (bs - 97)) (k : ∀ q7 : Nat, h q7 = none → ∀ q15 : Nat, (xw_up (xw_up h q7 (.inl (0, 97, .inl ((fun _ => 0))))) a0 (.inr (3, [.ref q7, va_rf starts_a0, va_rf ends_a0, va_rf letters_a0, .int length_a0]))) q15 = none → xw G m_Parts_init F L ((bc - 1) - 1) ((bs - 97) - 97) pr px 20 [some (.ref a0)] [] (xw_up (xw_up (xw_up (xw_up h q7 (.inl (0, 97, .inl ((fun _ => 0))))) a0 (.inr (3, [.ref q7, va_rf starts_a0, va_rf ends_a0, va_rf letters_a0, .int length_a0]))) q15 (.inl (0, 97, .inl ((fun _ => 0))))) a0 (.inr (3, [.ref q7, .ref q15, va_rf ends_a0, va_rf letters_a0, .int length_a0])))) : xw G m_Parts_init F L bc bs pr px 0 [some (.ref a0)] [] h := by
  refine x_aload_n d_Parts_init_0 rfl rfl ?_
  refine x_objInit d_Parts_init_1 oi_Parts r_1.1 (by simpa [Value.category] using r_1.2) ?_
  refine x_aload_n d_Parts_init_4 rfl rfl ?_
  refine x_bipush (v := 97) d_Parts_init_5 (by decide) ?_
  refine x_inew (N := 97) d_Parts_init_7 (by decide +kernel) (by decide) (by decide) (by decide) u_7 (fun q7 hq7 => ?_)
  show xw G m_Parts_init F L (bc - 1) (bs - 97) pr px 9 [some (.ref a0)] [.ref q7, .ref a0] (xw_up h q7 (.inl (0, 97, .inl ((fun _ => 0)))))
  refine x_putF (ty := (.array .int)) d_Parts_init_9 f_Parts_9 fw_Parts_0.1 rfl rfl fw_Parts_0.2 rfl rfl (Nat.le_of_ble_eq_true rfl) ((xw_up_n _ _ (xw_neN e_a0 hq7)).trans e_a0) ?_
  show xw G m_Parts_init F L (bc - 1) (bs - 97) pr px 12 [some (.ref a0)] [] (xw_up (xw_up h q7 (.inl (0, 97, .inl ((fun _ => 0))))) a0 (.inr (3, [.ref q7, va_rf starts_a0, va_rf ends_a0, va_rf letters_a0, .int length_a0])))
  refine x_aload_n d_Parts_init_12 rfl rfl ?_
  refine x_bipush (v := 97) d_Parts_init_13 (by decide) ?_
  refine x_inew (N := 97) d_Parts_init_15 (by decide +kernel) (by decide) (by decide) (by decide) u_15 (fun q15 hq15 => ?_)
  show xw G m_Parts_init F L ((bc - 1) - 1) ((bs - 97) - 97) pr px 17 [some (.ref a0)] [.ref q15, .ref a0] (xw_up (xw_up (xw_up h q7 (.inl (0, 97, .inl ((fun _ => 0))))) a0 (.inr (3, [.ref q7, va_rf starts_a0, va_rf ends_a0, va_rf letters_a0, .int length_a0]))) q15 (.inl (0, 97, .inl ((fun _ => 0)))))
  refine x_putF (ty := (.array .int)) d_Parts_init_17 f_Parts_15 fw_Parts_1.1 rfl rfl fw_Parts_1.2 rfl rfl (Nat.le_of_ble_eq_true rfl) ((xw_up_n _ _ (xw_neN (xw_up_s _ _ _) hq15)).trans (xw_up_s _ _ _)) ?_
  show xw G m_Parts_init F L ((bc - 1) - 1) ((bs - 97) - 97) pr px 20 [some (.ref a0)] [] (xw_up (xw_up (xw_up (xw_up h q7 (.inl (0, 97, .inl ((fun _ => 0))))) a0 (.inr (3, [.ref q7, va_rf starts_a0, va_rf ends_a0, va_rf letters_a0, .int length_a0]))) q15 (.inl (0, 97, .inl ((fun _ => 0))))) a0 (.inr (3, [.ref q7, .ref q15, va_rf ends_a0, va_rf letters_a0, .int length_a0])))
  exact (k q7 hq7 q15 hq15)
theorem s_Parts_init_20 {G : xw_G} {F L bc bs : Nat} {pr : Option Value → xw_A → Prop} {px : String → xw_A → Prop} {h : xw_A} {a0 : Nat} {kinds_a0 : Option Nat} {starts_a0 : Option Nat} {ends_a0 : Option Nat} {letters_a0 : Option Nat} {length_a0 : Int32} (u_23 : 1 ≤ bc ∧ 97 ≤ bs) (e_a0 : h a0 = some (.inr (3, [va_rf kinds_a0, va_rf starts_a0, va_rf ends_a0, va_rf letters_a0, .int length_a0]))) (kr : ∀ q23 : Nat, h q23 = none → pr none (xw_up (xw_up h q23 (.inl (0, 97, .inl ((fun _ => 0))))) a0 (.inr (3, [va_rf kinds_a0, va_rf starts_a0, .ref q23, va_rf letters_a0, .int length_a0])))) : xw G m_Parts_init F L bc bs pr px 20 [some (.ref a0)] [] h := by
  refine x_aload_n d_Parts_init_20 rfl rfl ?_
  refine x_bipush (v := 97) d_Parts_init_21 (by decide) ?_
  refine x_inew (N := 97) d_Parts_init_23 (by decide +kernel) (by decide) (by decide) (by decide) u_23 (fun q23 hq23 => ?_)
  show xw G m_Parts_init F L (bc - 1) (bs - 97) pr px 25 [some (.ref a0)] [.ref q23, .ref a0] (xw_up h q23 (.inl (0, 97, .inl ((fun _ => 0)))))
  refine x_putF (ty := (.array .int)) d_Parts_init_25 f_Parts_18 fw_Parts_2.1 rfl rfl fw_Parts_2.2 rfl rfl (Nat.le_of_ble_eq_true rfl) ((xw_up_n _ _ (xw_neN e_a0 hq23)).trans e_a0) ?_
  show xw G m_Parts_init F L (bc - 1) (bs - 97) pr px 28 [some (.ref a0)] [] (xw_up (xw_up h q23 (.inl (0, 97, .inl ((fun _ => 0))))) a0 (.inr (3, [va_rf kinds_a0, va_rf starts_a0, .ref q23, va_rf letters_a0, .int length_a0])))
  exact x_vret d_Parts_init_28 rfl (kr q23 hq23)
theorem s_Parts_split_0 {G : xw_G} {F L bc bs : Nat} {pr : Option Value → xw_A → Prop} {px : String → xw_A → Prop} {h : xw_A} {a0 : Nat} {a1 : Nat} {x2 : Int32} {kinds_a0 : Option Nat} {starts_a0 : Option Nat} {ends_a0 : Option Nat} {letters_a0 : Option Nat} {length_a0 : Int32} (e_a0 : h a0 = some (.inr (3, [va_rf kinds_a0, va_rf starts_a0, va_rf ends_a0, va_rf letters_a0, .int length_a0]))) (k : xw G m_Parts_split F L bc bs pr px 15 [some (.ref a0), none, none, some (.int 0), some (.int 0)] [] (xw_up (xw_up h a0 (.inr (3, [va_rf kinds_a0, va_rf starts_a0, va_rf ends_a0, .ref a1, .int length_a0]))) a0 (.inr (3, [va_rf kinds_a0, va_rf starts_a0, va_rf ends_a0, .ref a1, .int x2])))) : xw G m_Parts_split F L bc bs pr px 0 [some (.ref a0), some (.ref a1), some (.int x2), none, none] [] h := by
  refine x_aload_n d_Parts_split_0 rfl rfl ?_
  refine x_aload_n d_Parts_split_1 rfl rfl ?_
  refine x_put (ty := (.array .char)) d_Parts_split_2 f_Parts_21 fw_Parts_3.1 fw_Parts_3.2 rfl rfl (Nat.le_of_ble_eq_true rfl) e_a0 ?_
  show xw G m_Parts_split F L bc bs pr px 5 [some (.ref a0), some (.ref a1), some (.int x2), none, none] [] (xw_up h a0 (.inr (3, [va_rf kinds_a0, va_rf starts_a0, va_rf ends_a0, .ref a1, .int length_a0])))
  refine x_aload_n d_Parts_split_5 rfl rfl ?_
  refine x_iload_n d_Parts_split_6 rfl rfl ?_
  refine x_put (ty := .int) d_Parts_split_7 f_Parts_25 fw_Parts_4.1 fw_Parts_4.2 rfl rfl (Nat.le_of_ble_eq_true rfl) (xw_up_s _ _ _) ?_
  show xw G m_Parts_split F L bc bs pr px 10 [some (.ref a0), some (.ref a1), some (.int x2), none, none] [] (xw_up (xw_up h a0 (.inr (3, [va_rf kinds_a0, va_rf starts_a0, va_rf ends_a0, .ref a1, .int length_a0]))) a0 (.inr (3, [va_rf kinds_a0, va_rf starts_a0, va_rf ends_a0, .ref a1, .int x2])))
  refine x_iconst (v := 0) d_Parts_split_10 (by decide) ?_
  refine x_istore_n d_Parts_split_11 rfl (by decide) rfl ?_
  show xw G m_Parts_split F L bc bs pr px 12 [some (.ref a0), some (.ref a1), some (.int x2), some (.int 0), none] [] (xw_up (xw_up h a0 (.inr (3, [va_rf kinds_a0, va_rf starts_a0, va_rf ends_a0, .ref a1, .int length_a0]))) a0 (.inr (3, [va_rf kinds_a0, va_rf starts_a0, va_rf ends_a0, .ref a1, .int x2])))
  refine x_iconst (v := 0) d_Parts_split_12 (by decide) ?_
  refine x_istore d_Parts_split_13 (by decide) rfl ?_
  show xw G m_Parts_split F L bc bs pr px 15 [some (.ref a0), some (.ref a1), some (.int x2), some (.int 0), some (.int 0)] [] (xw_up (xw_up h a0 (.inr (3, [va_rf kinds_a0, va_rf starts_a0, va_rf ends_a0, .ref a1, .int length_a0]))) a0 (.inr (3, [va_rf kinds_a0, va_rf starts_a0, va_rf ends_a0, .ref a1, .int x2])))
  exact x_le (lv' := [some (.ref a0), none, none, some (.int 0), some (.int 0)]) (xw_le_s (xw_le_n (xw_le_n (xw_le_s (xw_le_s xw_le_e))))) (k)
theorem s_Parts_split_15 {G : xw_G} {F L bc bs : Nat} {pr : Option Value → xw_A → Prop} {px : String → xw_A → Prop} {h : xw_A} {a0 : Nat} {x3 : Int32} {x4 : Int32} {kinds_a0 : Nat} {starts_a0 : Option Nat} {ends_a0 : Option Nat} {letters_a0 : Option Nat} {length_a0 : Int32} {n_kinds_a0 : Nat} {f_kinds_a0 : Nat → Int32} (e_a0 : h a0 = some (.inr (3, [.ref kinds_a0, va_rf starts_a0, va_rf ends_a0, va_rf letters_a0, .int length_a0]))) (e_kinds_a0 : h kinds_a0 = some (.inl (0, n_kinds_a0, .inl f_kinds_a0))) (kt : (Int32.ofNat n_kinds_a0) ≤ x4 → xw G m_Parts_split F L bc bs pr px 81 [none, none, none, none, none] [] h) (kf : ¬ (Int32.ofNat n_kinds_a0) ≤ x4 → xw G m_Parts_split F L bc bs pr px 25 [some (.ref a0), none, none, some (.int x3), some (.int x4)] [] h) : xw G m_Parts_split F L bc bs pr px 15 [some (.ref a0), none, none, some (.int x3), some (.int x4)] [] h := by
  refine x_iload d_Parts_split_15 rfl ?_
  refine x_aload_n d_Parts_split_17 rfl rfl ?_
  refine x_get d_Parts_split_18 f_Parts_9 e_a0 rfl ?_
  refine x_alen d_Parts_split_21 e_kinds_a0 rfl ?_
  refine x_icmp_ge (tgt := 81) d_Parts_split_22 (by decide) (fun hc => ?_) (fun hc => ?_)
  · exact x_le (lv' := [none, none, none, none, none]) (xw_le_n (xw_le_n (xw_le_n (xw_le_n (xw_le_n xw_le_e))))) (kt hc)
  · exact kf hc
theorem s_Parts_split_25 {G : xw_G} {F L bc bs : Nat} {pr : Option Value → xw_A → Prop} {px : String → xw_A → Prop} {h : xw_A} {a0 : Nat} {x3 : Int32} {x4 : Int32}  (k : xw G m_Parts_split F L bc bs pr px 27 [some (.ref a0), none, none, some (.int x3), some (.int x4)] [.int x3, .ref a0] h) : xw G m_Parts_split F L bc bs pr px 25 [some (.ref a0), none, none, some (.int x3), some (.int x4)] [] h := by
  refine x_aload_n d_Parts_split_25 rfl rfl ?_
  refine x_iload_n d_Parts_split_26 rfl rfl ?_
  exact k
theorem s_Parts_split_30 {G : xw_G} {F L bc bs : Nat} {pr : Option Value → xw_A → Prop} {px : String → xw_A → Prop} {h : xw_A} {a0 : Nat} {x4 : Int32} {y0 : Int32} {kinds_a0 : Option Nat} {starts_a0 : Nat} {ends_a0 : Option Nat} {letters_a0 : Option Nat} {length_a0 : Int32} {n_starts_a0 : Nat} {f_starts_a0 : Nat → Int32} (e_a0 : h a0 = some (.inr (3, [va_rf kinds_a0, .ref starts_a0, va_rf ends_a0, va_rf letters_a0, .int length_a0]))) (e_starts_a0 : h starts_a0 = some (.inl (0, n_starts_a0, .inl f_starts_a0))) (i_38 : vp_in x4 n_starts_a0) (k : xw G m_Parts_split F L bc bs pr px 42 [some (.ref a0), none, none, some (.int y0), some (.int x4)] [.int x4, .ref a0] (xw_up h starts_a0 (.inl (0, n_starts_a0, .inl (upd f_starts_a0 (x4).toNatClampNeg y0))))) : xw G m_Parts_split F L bc bs pr px 30 [some (.ref a0), none, none, none, some (.int x4)] [.int y0] h := by
  refine x_istore_n d_Parts_split_30 rfl (by decide) trivial ?_
  show xw G m_Parts_split F L bc bs pr px 31 [some (.ref a0), none, none, some (.int y0), some (.int x4)] [] h
  refine x_aload_n d_Parts_split_31 rfl rfl ?_
  refine x_get d_Parts_split_32 f_Parts_15 e_a0 rfl ?_
  refine x_iload d_Parts_split_35 rfl ?_
  refine x_iload_n d_Parts_split_37 rfl rfl ?_
  refine x_iast d_Parts_split_38 e_starts_a0 i_38 ?_
  refine x_aload_n d_Parts_split_39 rfl rfl ?_
  refine x_iload d_Parts_split_40 rfl ?_
  exact k
theorem s_Parts_split_45 {G : xw_G} {F L bc bs : Nat} {pr : Option Value → xw_A → Prop} {px : String → xw_A → Prop} {h : xw_A} {a0 : Nat} {x4 : Int32} {kinds_a0 : Nat} {starts_a0 : Option Nat} {ends_a0 : Nat} {letters_a0 : Option Nat} {length_a0 : Int32} {n_ends_a0 : Nat} {f_ends_a0 : Nat → Int32} {n_kinds_a0 : Nat} {f_kinds_a0 : Nat → Int32} (e_a0 : h a0 = some (.inr (3, [.ref kinds_a0, va_rf starts_a0, .ref ends_a0, va_rf letters_a0, .int length_a0]))) (e_ends_a0 : h ends_a0 = some (.inl (0, n_ends_a0, .inl f_ends_a0))) (i_51 : vp_in x4 n_ends_a0) (e_kinds_a0 : h kinds_a0 = some (.inl (0, n_kinds_a0, .inl f_kinds_a0))) (i_59 : vp_in x4 n_kinds_a0) (kt : (f_kinds_a0 x4.toNatClampNeg) = 0 → xw G m_Parts_split F L bc bs pr px 74 [none, none, none, none, none] [] h) (kf : ¬ (f_kinds_a0 x4.toNatClampNeg) = 0 → xw G m_Parts_split F L bc bs pr px 63 [some (.ref a0), none, none, some (.int (f_ends_a0 x4.toNatClampNeg)), some (.int x4)] [] h) : xw G m_Parts_split F L bc bs pr px 45 [some (.ref a0), none, none, none, some (.int x4)] [] h := by
  refine x_aload_n d_Parts_split_45 rfl rfl ?_
  refine x_get d_Parts_split_46 f_Parts_18 e_a0 rfl ?_
  refine x_iload d_Parts_split_49 rfl ?_
  refine x_iald d_Parts_split_51 e_ends_a0 i_51 ?_
  refine x_istore_n d_Parts_split_52 rfl (by decide) trivial ?_
  show xw G m_Parts_split F L bc bs pr px 53 [some (.ref a0), none, none, some (.int (f_ends_a0 x4.toNatClampNeg)), some (.int x4)] [] h
  refine x_aload_n d_Parts_split_53 rfl rfl ?_
  refine x_get d_Parts_split_54 f_Parts_9 e_a0 rfl ?_
  refine x_iload d_Parts_split_57 rfl ?_
  refine x_iald d_Parts_split_59 e_kinds_a0 i_59 ?_
  refine x_if_eq (tgt := 74) d_Parts_split_60 (by decide) (fun hc => ?_) (fun hc => ?_)
  · exact x_le (lv' := [none, none, none, none, none]) (xw_le_n (xw_le_n (xw_le_n (xw_le_n (xw_le_n xw_le_e))))) (kt hc)
  · exact kf hc
theorem s_Parts_split_63 {G : xw_G} {F L bc bs : Nat} {pr : Option Value → xw_A → Prop} {px : String → xw_A → Prop} {h : xw_A} {a0 : Nat} {x3 : Int32} {x4 : Int32} {kinds_a0 : Nat} {starts_a0 : Option Nat} {ends_a0 : Option Nat} {letters_a0 : Option Nat} {length_a0 : Int32} {n_kinds_a0 : Nat} {f_kinds_a0 : Nat → Int32} (e_a0 : h a0 = some (.inr (3, [.ref kinds_a0, va_rf starts_a0, va_rf ends_a0, va_rf letters_a0, .int length_a0]))) (e_kinds_a0 : h kinds_a0 = some (.inl (0, n_kinds_a0, .inl f_kinds_a0))) (i_69 : vp_in x4 n_kinds_a0) (kt : ¬ (f_kinds_a0 x4.toNatClampNeg) = 1 → xw G m_Parts_split F L bc bs pr px 75 [some (.ref a0), none, none, some (.int x3), some (.int x4)] [] h) (kf : (f_kinds_a0 x4.toNatClampNeg) = 1 → xw G m_Parts_split F L bc bs pr px 74 [none, none, none, none, none] [] h) : xw G m_Parts_split F L bc bs pr px 63 [some (.ref a0), none, none, some (.int x3), some (.int x4)] [] h := by
  refine x_aload_n d_Parts_split_63 rfl rfl ?_
  refine x_get d_Parts_split_64 f_Parts_9 e_a0 rfl ?_
  refine x_iload d_Parts_split_67 rfl ?_
  refine x_iald d_Parts_split_69 e_kinds_a0 i_69 ?_
  refine x_iconst (v := 1) d_Parts_split_70 (by decide) ?_
  refine x_icmp_ne (tgt := 75) d_Parts_split_71 (by decide) (fun hc => ?_) (fun hc => ?_)
  · exact kt hc
  · exact x_le (lv' := [none, none, none, none, none]) (xw_le_n (xw_le_n (xw_le_n (xw_le_n (xw_le_n xw_le_e))))) (kf hc)
theorem s_Parts_split_74 {G : xw_G} {F L bc bs : Nat} {pr : Option Value → xw_A → Prop} {px : String → xw_A → Prop} {h : xw_A}   (kr : pr none h) : xw G m_Parts_split F L bc bs pr px 74 [none, none, none, none, none] [] h := by
  exact x_vret d_Parts_split_74 rfl kr
theorem s_Parts_split_75 {G : xw_G} {F L bc bs : Nat} {pr : Option Value → xw_A → Prop} {px : String → xw_A → Prop} {h : xw_A} {a0 : Nat} {x3 : Int32} {x4 : Int32}  (k : xw G m_Parts_split F L bc bs pr px 15 [some (.ref a0), none, none, some (.int x3), some (.int (x4 + 1))] [] h) : xw G m_Parts_split F L bc bs pr px 75 [some (.ref a0), none, none, some (.int x3), some (.int x4)] [] h := by
  refine x_iinc (v := x4 + 1) d_Parts_split_75 rfl (by rfl) (by decide) rfl ?_
  show xw G m_Parts_split F L bc bs pr px 78 [some (.ref a0), none, none, some (.int x3), some (.int (x4 + 1))] [] h
  refine x_goto (tgt := 15) d_Parts_split_78 (by decide) ?_
  exact k
theorem s_Parts_split_81 {G : xw_G} {F L bc bs : Nat} {pr : Option Value → xw_A → Prop} {px : String → xw_A → Prop} {h : xw_A}   (kr : pr none h) : xw G m_Parts_split F L bc bs pr px 81 [none, none, none, none, none] [] h := by
  exact x_vret d_Parts_split_81 rfl kr
theorem s_Parts_blanksEnd_0 {G : xw_G} {F L bc bs : Nat} {pr : Option Value → xw_A → Prop} {px : String → xw_A → Prop} {h : xw_A} {a0 : Nat} {x1 : Int32}  (k : xw G m_Parts_blanksEnd F L bc bs pr px 2 [some (.ref a0), none, some (.int x1)] [] h) : xw G m_Parts_blanksEnd F L bc bs pr px 0 [some (.ref a0), some (.int x1), none] [] h := by
  refine x_iload_n d_Parts_blanksEnd_0 rfl rfl ?_
  refine x_istore_n d_Parts_blanksEnd_1 rfl (by decide) rfl ?_
  show xw G m_Parts_blanksEnd F L bc bs pr px 2 [some (.ref a0), some (.int x1), some (.int x1)] [] h
  exact x_le (lv' := [some (.ref a0), none, some (.int x1)]) (xw_le_s (xw_le_n (xw_le_s xw_le_e))) (k)
theorem s_Parts_blanksEnd_2 {G : xw_G} {F L bc bs : Nat} {pr : Option Value → xw_A → Prop} {px : String → xw_A → Prop} {h : xw_A} {a0 : Nat} {x2 : Int32} {kinds_a0 : Option Nat} {starts_a0 : Option Nat} {ends_a0 : Option Nat} {letters_a0 : Option Nat} {length_a0 : Int32} (e_a0 : h a0 = some (.inr (3, [va_rf kinds_a0, va_rf starts_a0, va_rf ends_a0, va_rf letters_a0, .int length_a0]))) (kt : length_a0 ≤ x2 → xw G m_Parts_blanksEnd F L bc bs pr px 27 [none, none, some (.int x2)] [] h) (kf : ¬ length_a0 ≤ x2 → xw G m_Parts_blanksEnd F L bc bs pr px 10 [some (.ref a0), none, some (.int x2)] [] h) : xw G m_Parts_blanksEnd F L bc bs pr px 2 [some (.ref a0), none, some (.int x2)] [] h := by
  refine x_iload_n d_Parts_blanksEnd_2 rfl rfl ?_
  refine x_aload_n d_Parts_blanksEnd_3 rfl rfl ?_
  refine x_get d_Parts_blanksEnd_4 f_Parts_25 e_a0 rfl ?_
  refine x_icmp_ge (tgt := 27) d_Parts_blanksEnd_7 (by decide) (fun hc => ?_) (fun hc => ?_)
  · exact x_le (lv' := [none, none, some (.int x2)]) (xw_le_n (xw_le_n (xw_le_s xw_le_e))) (kt hc)
  · exact kf hc
theorem s_Parts_blanksEnd_10 {G : xw_G} {F L bc bs : Nat} {pr : Option Value → xw_A → Prop} {px : String → xw_A → Prop} {h : xw_A} {a0 : Nat} {x2 : Int32} {kinds_a0 : Option Nat} {starts_a0 : Option Nat} {ends_a0 : Option Nat} {letters_a0 : Nat} {length_a0 : Int32} {n_letters_a0 : Nat} {f_letters_a0 : Nat → Int32} (e_a0 : h a0 = some (.inr (3, [va_rf kinds_a0, va_rf starts_a0, va_rf ends_a0, .ref letters_a0, .int length_a0]))) (e_letters_a0 : h letters_a0 = some (.inl (1, n_letters_a0, .inl f_letters_a0))) (i_15 : vp_in x2 n_letters_a0) (kt : ¬ (f_letters_a0 x2.toNatClampNeg) = 32 → xw G m_Parts_blanksEnd F L bc bs pr px 27 [none, none, some (.int x2)] [] h) (kf : (f_letters_a0 x2.toNatClampNeg) = 32 → xw G m_Parts_blanksEnd F L bc bs pr px 21 [some (.ref a0), none, some (.int x2)] [] h) : xw G m_Parts_blanksEnd F L bc bs pr px 10 [some (.ref a0), none, some (.int x2)] [] h := by
  refine x_aload_n d_Parts_blanksEnd_10 rfl rfl ?_
  refine x_get d_Parts_blanksEnd_11 f_Parts_21 e_a0 rfl ?_
  refine x_iload_n d_Parts_blanksEnd_14 rfl rfl ?_
  refine x_cald d_Parts_blanksEnd_15 e_letters_a0 i_15 ?_
  refine x_bipush (v := 32) d_Parts_blanksEnd_16 (by decide) ?_
  refine x_icmp_ne (tgt := 27) d_Parts_blanksEnd_18 (by decide) (fun hc => ?_) (fun hc => ?_)
  · exact x_le (lv' := [none, none, some (.int x2)]) (xw_le_n (xw_le_n (xw_le_s xw_le_e))) (kt hc)
  · exact kf hc
theorem s_Parts_blanksEnd_21 {G : xw_G} {F L bc bs : Nat} {pr : Option Value → xw_A → Prop} {px : String → xw_A → Prop} {h : xw_A} {a0 : Nat} {x2 : Int32}  (k : xw G m_Parts_blanksEnd F L bc bs pr px 2 [some (.ref a0), none, some (.int (x2 + 1))] [] h) : xw G m_Parts_blanksEnd F L bc bs pr px 21 [some (.ref a0), none, some (.int x2)] [] h := by
  refine x_iinc (v := x2 + 1) d_Parts_blanksEnd_21 rfl (by rfl) (by decide) trivial ?_
  show xw G m_Parts_blanksEnd F L bc bs pr px 24 [some (.ref a0), none, some (.int (x2 + 1))] [] h
  refine x_goto (tgt := 2) d_Parts_blanksEnd_24 (by decide) ?_
  exact k
theorem s_Parts_blanksEnd_27 {G : xw_G} {F L bc bs : Nat} {pr : Option Value → xw_A → Prop} {px : String → xw_A → Prop} {h : xw_A} {x2 : Int32}  (kr : pr (some (.int x2)) h) : xw G m_Parts_blanksEnd F L bc bs pr px 27 [none, none, some (.int x2)] [] h := by
  refine x_iload_n d_Parts_blanksEnd_27 rfl rfl ?_
  exact x_iret d_Parts_blanksEnd_28 rfl kr
theorem s_Parts_readPart_0 {G : xw_G} {F L bc bs : Nat} {pr : Option Value → xw_A → Prop} {px : String → xw_A → Prop} {h : xw_A} {a0 : Nat} {x1 : Int32} {kinds_a0 : Option Nat} {starts_a0 : Nat} {ends_a0 : Option Nat} {letters_a0 : Option Nat} {length_a0 : Int32} {n_starts_a0 : Nat} {f_starts_a0 : Nat → Int32} (e_a0 : h a0 = some (.inr (3, [va_rf kinds_a0, .ref starts_a0, va_rf ends_a0, va_rf letters_a0, .int length_a0]))) (e_starts_a0 : h starts_a0 = some (.inl (0, n_starts_a0, .inl f_starts_a0))) (i_5 : vp_in x1 n_starts_a0) (kt : (f_starts_a0 x1.toNatClampNeg) < length_a0 → xw G m_Parts_readPart F L bc bs pr px 32 [some (.ref a0), some (.int x1), some (.int (f_starts_a0 x1.toNatClampNeg)), none] [] h) (kf : ¬ (f_starts_a0 x1.toNatClampNeg) < length_a0 → xw G m_Parts_readPart F L bc bs pr px 15 [some (.ref a0), some (.int x1), some (.int (f_starts_a0 x1.toNatClampNeg)), none] [] h) : xw G m_Parts_readPart F L bc bs pr px 0 [some (.ref a0), some (.int x1), none, none] [] h := by
  refine x_aload_n d_Parts_readPart_0 rfl rfl ?_
  refine x_get d_Parts_readPart_1 f_Parts_15 e_a0 rfl ?_
  refine x_iload_n d_Parts_readPart_4 rfl rfl ?_
  refine x_iald d_Parts_readPart_5 e_starts_a0 i_5 ?_
  refine x_istore_n d_Parts_readPart_6 rfl (by decide) rfl ?_
  show xw G m_Parts_readPart F L bc bs pr px 7 [some (.ref a0), some (.int x1), some (.int (f_starts_a0 x1.toNatClampNeg)), none] [] h
  refine x_iload_n d_Parts_readPart_7 rfl rfl ?_
  refine x_aload_n d_Parts_readPart_8 rfl rfl ?_
  refine x_get d_Parts_readPart_9 f_Parts_25 e_a0 rfl ?_
  refine x_icmp_lt (tgt := 32) d_Parts_readPart_12 (by decide) (fun hc => ?_) (fun hc => ?_)
  · exact kt hc
  · exact kf hc
theorem s_Parts_readPart_15 {G : xw_G} {F L bc bs : Nat} {pr : Option Value → xw_A → Prop} {px : String → xw_A → Prop} {h : xw_A} {a0 : Nat} {x1 : Int32} {x2 : Int32} {kinds_a0 : Nat} {starts_a0 : Option Nat} {ends_a0 : Nat} {letters_a0 : Option Nat} {length_a0 : Int32} {n_kinds_a0 : Nat} {f_kinds_a0 : Nat → Int32} {n_ends_a0 : Nat} {f_ends_a0 : Nat → Int32} (e_a0 : h a0 = some (.inr (3, [.ref kinds_a0, va_rf starts_a0, .ref ends_a0, va_rf letters_a0, .int length_a0]))) (e_kinds_a0 : h kinds_a0 = some (.inl (0, n_kinds_a0, .inl f_kinds_a0))) (i_21 : vp_in x1 n_kinds_a0) (e_ends_a0 : h ends_a0 = some (.inl (0, n_ends_a0, .inl f_ends_a0))) (i_28 : vp_in x1 n_ends_a0) (n_ends_a0_kinds_a0 : ends_a0 ≠ kinds_a0) (k : xw G m_Parts_readPart F L bc bs pr px 160 [none, none, none, none] [] (xw_up (xw_up h kinds_a0 (.inl (0, n_kinds_a0, .inl (upd f_kinds_a0 (x1).toNatClampNeg 0)))) ends_a0 (.inl (0, n_ends_a0, .inl (upd f_ends_a0 (x1).toNatClampNeg x2))))) : xw G m_Parts_readPart F L bc bs pr px 15 [some (.ref a0), some (.int x1), some (.int x2), none] [] h := by
  refine x_aload_n d_Parts_readPart_15 rfl rfl ?_
  refine x_get d_Parts_readPart_16 f_Parts_9 e_a0 rfl ?_
  refine x_iload_n d_Parts_readPart_19 rfl rfl ?_
  refine x_iconst (v := 0) d_Parts_readPart_20 (by decide) ?_
  refine x_iast d_Parts_readPart_21 e_kinds_a0 i_21 ?_
  refine x_aload_n d_Parts_readPart_22 rfl rfl ?_
  refine x_get d_Parts_readPart_23 f_Parts_18 ((xw_up_n _ _ (xw_ne e_a0 e_kinds_a0 (by simp))).trans e_a0) rfl ?_
  refine x_iload_n d_Parts_readPart_26 rfl rfl ?_
  refine x_iload_n d_Parts_readPart_27 rfl rfl ?_
  refine x_iast d_Parts_readPart_28 ((xw_up_n _ _ n_ends_a0_kinds_a0).trans e_ends_a0) i_28 ?_
  refine x_goto (tgt := 160) d_Parts_readPart_29 (by decide) ?_
  exact x_le (lv' := [none, none, none, none]) (xw_le_n (xw_le_n (xw_le_n (xw_le_n xw_le_e)))) (k)
theorem s_Parts_readPart_32 {G : xw_G} {F L bc bs : Nat} {pr : Option Value → xw_A → Prop} {px : String → xw_A → Prop} {h : xw_A} {a0 : Nat} {x1 : Int32} {x2 : Int32} {kinds_a0 : Option Nat} {starts_a0 : Option Nat} {ends_a0 : Option Nat} {letters_a0 : Nat} {length_a0 : Int32} {n_letters_a0 : Nat} {f_letters_a0 : Nat → Int32} (e_a0 : h a0 = some (.inr (3, [va_rf kinds_a0, va_rf starts_a0, va_rf ends_a0, .ref letters_a0, .int length_a0]))) (e_letters_a0 : h letters_a0 = some (.inl (1, n_letters_a0, .inl f_letters_a0))) (i_37 : vp_in x2 n_letters_a0) (k : xw G m_Parts_readPart F L bc bs pr px 38 [some (.ref a0), some (.int x1), some (.int x2), none] [.int (f_letters_a0 x2.toNatClampNeg)] h) : xw G m_Parts_readPart F L bc bs pr px 32 [some (.ref a0), some (.int x1), some (.int x2), none] [] h := by
  refine x_aload_n d_Parts_readPart_32 rfl rfl ?_
  refine x_get d_Parts_readPart_33 f_Parts_21 e_a0 rfl ?_
  refine x_iload_n d_Parts_readPart_36 rfl rfl ?_
  refine x_cald d_Parts_readPart_37 e_letters_a0 i_37 ?_
  exact k
theorem s_Parts_readPart_41 {G : xw_G} {F L bc bs : Nat} {pr : Option Value → xw_A → Prop} {px : String → xw_A → Prop} {h : xw_A} {a0 : Nat} {x1 : Int32} {x2 : Int32} {y0 : Int32}  (kt : y0 = 0 → xw G m_Parts_readPart F L bc bs pr px 75 [some (.ref a0), some (.int x1), some (.int x2), none] [] h) (kf : ¬ y0 = 0 → xw G m_Parts_readPart F L bc bs pr px 44 [some (.ref a0), some (.int x1), some (.int x2), none] [] h) : xw G m_Parts_readPart F L bc bs pr px 41 [some (.ref a0), some (.int x1), some (.int x2), none] [.int y0] h := by
  refine x_if_eq (tgt := 75) d_Parts_readPart_41 (by decide) (fun hc => ?_) (fun hc => ?_)
  · exact kt hc
  · exact kf hc
theorem s_Parts_readPart_44 {G : xw_G} {F L bc bs : Nat} {pr : Option Value → xw_A → Prop} {px : String → xw_A → Prop} {h : xw_A} {a0 : Nat} {x1 : Int32} {x2 : Int32} {kinds_a0 : Option Nat} {starts_a0 : Option Nat} {ends_a0 : Option Nat} {letters_a0 : Option Nat} {length_a0 : Int32} (e_a0 : h a0 = some (.inr (3, [va_rf kinds_a0, va_rf starts_a0, va_rf ends_a0, va_rf letters_a0, .int length_a0]))) (k : xw G m_Parts_readPart F L bc bs pr px 51 [some (.ref a0), some (.int x1), some (.int x2), none] [.int x2, .ref a0, .int x1, va_rf ends_a0] h) : xw G m_Parts_readPart F L bc bs pr px 44 [some (.ref a0), some (.int x1), some (.int x2), none] [] h := by
  refine x_aload_n d_Parts_readPart_44 rfl rfl ?_
  refine x_get d_Parts_readPart_45 f_Parts_18 e_a0 rfl ?_
  refine x_iload_n d_Parts_readPart_48 rfl rfl ?_
  refine x_aload_n d_Parts_readPart_49 rfl rfl ?_
  refine x_iload_n d_Parts_readPart_50 rfl rfl ?_
  exact k
theorem s_Parts_readPart_54 {G : xw_G} {F L bc bs : Nat} {pr : Option Value → xw_A → Prop} {px : String → xw_A → Prop} {h : xw_A} {a0 : Nat} {x1 : Int32} {x2 : Int32} {y0 : Int32} {b2 : Nat} {n_b2 : Nat} {f_b2 : Nat → Int32} {kinds_a0 : Option Nat} {starts_a0 : Option Nat} {ends_a0 : Nat} {letters_a0 : Option Nat} {length_a0 : Int32} {n_ends_a0 : Nat} {f_ends_a0 : Nat → Int32} (e_b2 : h b2 = some (.inl (0, n_b2, .inl f_b2))) (i_54 : vp_in x1 n_b2) (e_a0 : h a0 = some (.inr (3, [va_rf kinds_a0, va_rf starts_a0, .ref ends_a0, va_rf letters_a0, .int length_a0]))) (e_ends_a0 : h ends_a0 = some (.inl (0, n_ends_a0, .inl f_ends_a0))) (i_67 : vp_in x1 n_ends_a0) (n_ends_a0_b2 : ends_a0 ≠ b2) (k : xw G m_Parts_readPart F L bc bs pr px 68 [some (.ref a0), some (.int x1), some (.int x2), none] [.int (f_ends_a0 x1.toNatClampNeg), .int x2, .ref a0, .int x1, va_rf kinds_a0] (xw_up h b2 (.inl (0, n_b2, .inl (upd f_b2 (x1).toNatClampNeg y0))))) : xw G m_Parts_readPart F L bc bs pr px 54 [some (.ref a0), some (.int x1), some (.int x2), none] [.int y0, .int x1, .ref b2] h := by
  refine x_iast d_Parts_readPart_54 e_b2 i_54 ?_
  refine x_aload_n d_Parts_readPart_55 rfl rfl ?_
  refine x_get d_Parts_readPart_56 f_Parts_9 ((xw_up_n _ _ (xw_ne e_a0 e_b2 (by simp))).trans e_a0) rfl ?_
  refine x_iload_n d_Parts_readPart_59 rfl rfl ?_
  refine x_aload_n d_Parts_readPart_60 rfl rfl ?_
  refine x_iload_n d_Parts_readPart_61 rfl rfl ?_
  refine x_aload_n d_Parts_readPart_62 rfl rfl ?_
  refine x_get d_Parts_readPart_63 f_Parts_18 ((xw_up_n _ _ (xw_ne e_a0 e_b2 (by simp))).trans e_a0) rfl ?_
  refine x_iload_n d_Parts_readPart_66 rfl rfl ?_
  refine x_iald d_Parts_readPart_67 ((xw_up_n _ _ n_ends_a0_b2).trans e_ends_a0) i_67 ?_
  exact k
theorem s_Parts_readPart_71 {G : xw_G} {F L bc bs : Nat} {pr : Option Value → xw_A → Prop} {px : String → xw_A → Prop} {h : xw_A} {y0 : Int32} {y1 : Int32} {b2 : Nat} {n_b2 : Nat} {f_b2 : Nat → Int32} (e_b2 : h b2 = some (.inl (0, n_b2, .inl f_b2))) (i_71 : vp_in y1 n_b2) (k : xw G m_Parts_readPart F L bc bs pr px 160 [none, none, none, none] [] (xw_up h b2 (.inl (0, n_b2, .inl (upd f_b2 (y1).toNatClampNeg y0))))) : xw G m_Parts_readPart F L bc bs pr px 71 [none, none, none, none] [.int y0, .int y1, .ref b2] h := by
  refine x_iast d_Parts_readPart_71 e_b2 i_71 ?_
  refine x_goto (tgt := 160) d_Parts_readPart_72 (by decide) ?_
  exact k
theorem s_Parts_readPart_75 {G : xw_G} {F L bc bs : Nat} {pr : Option Value → xw_A → Prop} {px : String → xw_A → Prop} {h : xw_A} {a0 : Nat} {x1 : Int32} {x2 : Int32} {kinds_a0 : Option Nat} {starts_a0 : Option Nat} {ends_a0 : Option Nat} {letters_a0 : Nat} {length_a0 : Int32} {n_letters_a0 : Nat} {f_letters_a0 : Nat → Int32} (e_a0 : h a0 = some (.inr (3, [va_rf kinds_a0, va_rf starts_a0, va_rf ends_a0, .ref letters_a0, .int length_a0]))) (e_letters_a0 : h letters_a0 = some (.inl (1, n_letters_a0, .inl f_letters_a0))) (i_80 : vp_in x2 n_letters_a0) (kt : ¬ (f_letters_a0 x2.toNatClampNeg) = 34 → xw G m_Parts_readPart F L bc bs pr px 121 [some (.ref a0), some (.int x1), some (.int x2), none] [] h) (kf : (f_letters_a0 x2.toNatClampNeg) = 34 → xw G m_Parts_readPart F L bc bs pr px 86 [some (.ref a0), some (.int x1), some (.int x2), none] [] h) : xw G m_Parts_readPart F L bc bs pr px 75 [some (.ref a0), some (.int x1), some (.int x2), none] [] h := by
  refine x_aload_n d_Parts_readPart_75 rfl rfl ?_
  refine x_get d_Parts_readPart_76 f_Parts_21 e_a0 rfl ?_
  refine x_iload_n d_Parts_readPart_79 rfl rfl ?_
  refine x_cald d_Parts_readPart_80 e_letters_a0 i_80 ?_
  refine x_bipush (v := 34) d_Parts_readPart_81 (by decide) ?_
  refine x_icmp_ne (tgt := 121) d_Parts_readPart_83 (by decide) (fun hc => ?_) (fun hc => ?_)
  · exact kt hc
  · exact kf hc
theorem s_Parts_readPart_86 {G : xw_G} {F L bc bs : Nat} {pr : Option Value → xw_A → Prop} {px : String → xw_A → Prop} {h : xw_A} {a0 : Nat} {x1 : Int32} {x2 : Int32} {kinds_a0 : Option Nat} {starts_a0 : Option Nat} {ends_a0 : Option Nat} {letters_a0 : Option Nat} {length_a0 : Int32} (e_a0 : h a0 = some (.inr (3, [va_rf kinds_a0, va_rf starts_a0, va_rf ends_a0, va_rf letters_a0, .int length_a0]))) (k : xw G m_Parts_readPart F L bc bs pr px 93 [some (.ref a0), some (.int x1), some (.int x2), none] [.int x2, .ref a0, .int x1, va_rf ends_a0] h) : xw G m_Parts_readPart F L bc bs pr px 86 [some (.ref a0), some (.int x1), some (.int x2), none] [] h := by
  refine x_aload_n d_Parts_readPart_86 rfl rfl ?_
  refine x_get d_Parts_readPart_87 f_Parts_18 e_a0 rfl ?_
  refine x_iload_n d_Parts_readPart_90 rfl rfl ?_
  refine x_aload_n d_Parts_readPart_91 rfl rfl ?_
  refine x_iload_n d_Parts_readPart_92 rfl rfl ?_
  exact k
theorem s_Parts_readPart_96 {G : xw_G} {F L bc bs : Nat} {pr : Option Value → xw_A → Prop} {px : String → xw_A → Prop} {h : xw_A} {a0 : Nat} {x1 : Int32} {x2 : Int32} {y0 : Int32} {b2 : Nat} {n_b2 : Nat} {f_b2 : Nat → Int32} {kinds_a0 : Option Nat} {starts_a0 : Option Nat} {ends_a0 : Nat} {letters_a0 : Option Nat} {length_a0 : Int32} {n_ends_a0 : Nat} {f_ends_a0 : Nat → Int32} (e_b2 : h b2 = some (.inl (0, n_b2, .inl f_b2))) (i_96 : vp_in x1 n_b2) (e_a0 : h a0 = some (.inr (3, [va_rf kinds_a0, va_rf starts_a0, .ref ends_a0, va_rf letters_a0, .int length_a0]))) (e_ends_a0 : h ends_a0 = some (.inl (0, n_ends_a0, .inl f_ends_a0))) (i_107 : vp_in x1 n_ends_a0) (n_ends_a0_b2 : ends_a0 ≠ b2) (kt : (f_ends_a0 x1.toNatClampNeg) ≤ x2 → xw G m_Parts_readPart F L bc bs pr px 116 [none, none, none, none] [.int x1, va_rf kinds_a0] (xw_up h b2 (.inl (0, n_b2, .inl (upd f_b2 (x1).toNatClampNeg y0))))) (kf : ¬ (f_ends_a0 x1.toNatClampNeg) ≤ x2 → xw G m_Parts_readPart F L bc bs pr px 112 [none, none, none, none] [.int x1, va_rf kinds_a0] (xw_up h b2 (.inl (0, n_b2, .inl (upd f_b2 (x1).toNatClampNeg y0))))) : xw G m_Parts_readPart F L bc bs pr px 96 [some (.ref a0), some (.int x1), some (.int x2), none] [.int y0, .int x1, .ref b2] h := by
  refine x_iast d_Parts_readPart_96 e_b2 i_96 ?_
  refine x_aload_n d_Parts_readPart_97 rfl rfl ?_
  refine x_get d_Parts_readPart_98 f_Parts_9 ((xw_up_n _ _ (xw_ne e_a0 e_b2 (by simp))).trans e_a0) rfl ?_
  refine x_iload_n d_Parts_readPart_101 rfl rfl ?_
  refine x_aload_n d_Parts_readPart_102 rfl rfl ?_
  refine x_get d_Parts_readPart_103 f_Parts_18 ((xw_up_n _ _ (xw_ne e_a0 e_b2 (by simp))).trans e_a0) rfl ?_
  refine x_iload_n d_Parts_readPart_106 rfl rfl ?_
  refine x_iald d_Parts_readPart_107 ((xw_up_n _ _ n_ends_a0_b2).trans e_ends_a0) i_107 ?_
  refine x_iload_n d_Parts_readPart_108 rfl rfl ?_
  refine x_icmp_le (tgt := 116) d_Parts_readPart_109 (by decide) (fun hc => ?_) (fun hc => ?_)
  · exact x_le (lv' := [none, none, none, none]) (xw_le_n (xw_le_n (xw_le_n (xw_le_n xw_le_e)))) (kt hc)
  · exact x_le (lv' := [none, none, none, none]) (xw_le_n (xw_le_n (xw_le_n (xw_le_n xw_le_e)))) (kf hc)
theorem s_Parts_readPart_112 {G : xw_G} {F L bc bs : Nat} {pr : Option Value → xw_A → Prop} {px : String → xw_A → Prop} {h : xw_A} {y0 : Int32} {b1 : Nat}  (k : xw G m_Parts_readPart F L bc bs pr px 117 [none, none, none, none] [.int 4, .int y0, .ref b1] h) : xw G m_Parts_readPart F L bc bs pr px 112 [none, none, none, none] [.int y0, .ref b1] h := by
  refine x_iconst (v := 4) d_Parts_readPart_112 (by decide) ?_
  refine x_goto (tgt := 117) d_Parts_readPart_113 (by decide) ?_
  exact k
theorem s_Parts_readPart_116 {G : xw_G} {F L bc bs : Nat} {pr : Option Value → xw_A → Prop} {px : String → xw_A → Prop} {h : xw_A} {y0 : Int32} {b1 : Nat}  (k : xw G m_Parts_readPart F L bc bs pr px 117 [none, none, none, none] [.int 1, .int y0, .ref b1] h) : xw G m_Parts_readPart F L bc bs pr px 116 [none, none, none, none] [.int y0, .ref b1] h := by
  refine x_iconst (v := 1) d_Parts_readPart_116 (by decide) ?_
  exact k
theorem s_Parts_readPart_117 {G : xw_G} {F L bc bs : Nat} {pr : Option Value → xw_A → Prop} {px : String → xw_A → Prop} {h : xw_A} {y0 : Int32} {y1 : Int32} {b2 : Nat} {n_b2 : Nat} {f_b2 : Nat → Int32} (e_b2 : h b2 = some (.inl (0, n_b2, .inl f_b2))) (i_117 : vp_in y1 n_b2) (k : xw G m_Parts_readPart F L bc bs pr px 160 [none, none, none, none] [] (xw_up h b2 (.inl (0, n_b2, .inl (upd f_b2 (y1).toNatClampNeg y0))))) : xw G m_Parts_readPart F L bc bs pr px 117 [none, none, none, none] [.int y0, .int y1, .ref b2] h := by
  refine x_iast d_Parts_readPart_117 e_b2 i_117 ?_
  refine x_goto (tgt := 160) d_Parts_readPart_118 (by decide) ?_
  exact k
theorem s_Parts_readPart_132 {G : xw_G} {F L bc bs : Nat} {pr : Option Value → xw_A → Prop} {px : String → xw_A → Prop} {h : xw_A} {a0 : Nat} {x1 : Int32} {x2 : Int32} {y0 : Int32} {kinds_a0 : Option Nat} {starts_a0 : Option Nat} {ends_a0 : Option Nat} {letters_a0 : Option Nat} {length_a0 : Int32} (e_a0 : h a0 = some (.inr (3, [va_rf kinds_a0, va_rf starts_a0, va_rf ends_a0, va_rf letters_a0, .int length_a0]))) (kt : y0 < 0 → xw G m_Parts_readPart F L bc bs pr px 149 [some (.ref a0), some (.int x1), some (.int x2), none] [.int x1, va_rf kinds_a0] h) (kf : ¬ y0 < 0 → xw G m_Parts_readPart F L bc bs pr px 142 [some (.ref a0), some (.int x1), some (.int x2), some (.int y0)] [.int x1, va_rf kinds_a0] h) : xw G m_Parts_readPart F L bc bs pr px 132 [some (.ref a0), some (.int x1), some (.int x2), none] [.int y0] h := by
  refine x_istore_n d_Parts_readPart_132 rfl (by decide) rfl ?_
  show xw G m_Parts_readPart F L bc bs pr px 133 [some (.ref a0), some (.int x1), some (.int x2), some (.int y0)] [] h
  refine x_aload_n d_Parts_readPart_133 rfl rfl ?_
  refine x_get d_Parts_readPart_134 f_Parts_9 e_a0 rfl ?_
  refine x_iload_n d_Parts_readPart_137 rfl rfl ?_
  refine x_iload_n d_Parts_readPart_138 rfl rfl ?_
  refine x_if_lt (tgt := 149) d_Parts_readPart_139 (by decide) (fun hc => ?_) (fun hc => ?_)
  · exact x_le (lv' := [some (.ref a0), some (.int x1), some (.int x2), none]) (xw_le_s (xw_le_s (xw_le_s (xw_le_n xw_le_e)))) (kt hc)
  · exact kf hc
theorem s_Parts_readPart_142 {G : xw_G} {F L bc bs : Nat} {pr : Option Value → xw_A → Prop} {px : String → xw_A → Prop} {h : xw_A} {a0 : Nat} {x1 : Int32} {x2 : Int32} {x3 : Int32} {b1 : Nat}  (k : xw G m_Parts_readPart F L bc bs pr px 150 [some (.ref a0), some (.int x1), some (.int x2), none] [.int (9 + x3), .int x1, .ref b1] h) : xw G m_Parts_readPart F L bc bs pr px 142 [some (.ref a0), some (.int x1), some (.int x2), some (.int x3)] [.int x1, .ref b1] h := by
  refine x_bipush (v := 9) d_Parts_readPart_142 (by decide) ?_
  refine x_iload_n d_Parts_readPart_144 rfl rfl ?_
  refine x_iadd d_Parts_readPart_145 ?_
  refine x_goto (tgt := 150) d_Parts_readPart_146 (by decide) ?_
  exact x_le (lv' := [some (.ref a0), some (.int x1), some (.int x2), none]) (xw_le_s (xw_le_s (xw_le_s (xw_le_n xw_le_e)))) (k)
theorem s_Parts_readPart_149 {G : xw_G} {F L bc bs : Nat} {pr : Option Value → xw_A → Prop} {px : String → xw_A → Prop} {h : xw_A} {a0 : Nat} {x1 : Int32} {x2 : Int32} {b1 : Nat}  (k : xw G m_Parts_readPart F L bc bs pr px 150 [some (.ref a0), some (.int x1), some (.int x2), none] [.int 1, .int x1, .ref b1] h) : xw G m_Parts_readPart F L bc bs pr px 149 [some (.ref a0), some (.int x1), some (.int x2), none] [.int x1, .ref b1] h := by
  refine x_iconst (v := 1) d_Parts_readPart_149 (by decide) ?_
  exact k
theorem s_Parts_readPart_150 {G : xw_G} {F L bc bs : Nat} {pr : Option Value → xw_A → Prop} {px : String → xw_A → Prop} {h : xw_A} {a0 : Nat} {x1 : Int32} {x2 : Int32} {y0 : Int32} {b2 : Nat} {n_b2 : Nat} {f_b2 : Nat → Int32} {kinds_a0 : Option Nat} {starts_a0 : Option Nat} {ends_a0 : Nat} {letters_a0 : Option Nat} {length_a0 : Int32} {n_ends_a0 : Nat} {f_ends_a0 : Nat → Int32} (e_b2 : h b2 = some (.inl (0, n_b2, .inl f_b2))) (i_150 : vp_in x1 n_b2) (e_a0 : h a0 = some (.inr (3, [va_rf kinds_a0, va_rf starts_a0, .ref ends_a0, va_rf letters_a0, .int length_a0]))) (e_ends_a0 : h ends_a0 = some (.inl (0, n_ends_a0, .inl f_ends_a0))) (i_159 : vp_in x1 n_ends_a0) (n_ends_a0_b2 : ends_a0 ≠ b2) (k : xw G m_Parts_readPart F L bc bs pr px 160 [none, none, none, none] [] (xw_up (xw_up h b2 (.inl (0, n_b2, .inl (upd f_b2 (x1).toNatClampNeg y0)))) ends_a0 (.inl (0, n_ends_a0, .inl (upd f_ends_a0 (x1).toNatClampNeg (x2 + 1)))))) : xw G m_Parts_readPart F L bc bs pr px 150 [some (.ref a0), some (.int x1), some (.int x2), none] [.int y0, .int x1, .ref b2] h := by
  refine x_iast d_Parts_readPart_150 e_b2 i_150 ?_
  refine x_aload_n d_Parts_readPart_151 rfl rfl ?_
  refine x_get d_Parts_readPart_152 f_Parts_18 ((xw_up_n _ _ (xw_ne e_a0 e_b2 (by simp))).trans e_a0) rfl ?_
  refine x_iload_n d_Parts_readPart_155 rfl rfl ?_
  refine x_iload_n d_Parts_readPart_156 rfl rfl ?_
  refine x_iconst (v := 1) d_Parts_readPart_157 (by decide) ?_
  refine x_iadd d_Parts_readPart_158 ?_
  refine x_iast d_Parts_readPart_159 ((xw_up_n _ _ n_ends_a0_b2).trans e_ends_a0) i_159 ?_
  exact x_le (lv' := [none, none, none, none]) (xw_le_n (xw_le_n (xw_le_n (xw_le_n xw_le_e)))) (k)
theorem s_Parts_readPart_160 {G : xw_G} {F L bc bs : Nat} {pr : Option Value → xw_A → Prop} {px : String → xw_A → Prop} {h : xw_A}   (kr : pr none h) : xw G m_Parts_readPart F L bc bs pr px 160 [none, none, none, none] [] h := by
  exact x_vret d_Parts_readPart_160 rfl kr
theorem s_Parts_wordEnd_0 {G : xw_G} {F L bc bs : Nat} {pr : Option Value → xw_A → Prop} {px : String → xw_A → Prop} {h : xw_A} {a0 : Nat} {x1 : Int32}  (k : xw G m_Parts_wordEnd F L bc bs pr px 2 [some (.ref a0), none, some (.int x1)] [] h) : xw G m_Parts_wordEnd F L bc bs pr px 0 [some (.ref a0), some (.int x1), none] [] h := by
  refine x_iload_n d_Parts_wordEnd_0 rfl rfl ?_
  refine x_istore_n d_Parts_wordEnd_1 rfl (by decide) rfl ?_
  show xw G m_Parts_wordEnd F L bc bs pr px 2 [some (.ref a0), some (.int x1), some (.int x1)] [] h
  exact x_le (lv' := [some (.ref a0), none, some (.int x1)]) (xw_le_s (xw_le_n (xw_le_s xw_le_e))) (k)
theorem s_Parts_wordEnd_2 {G : xw_G} {F L bc bs : Nat} {pr : Option Value → xw_A → Prop} {px : String → xw_A → Prop} {h : xw_A} {a0 : Nat} {x2 : Int32} {kinds_a0 : Option Nat} {starts_a0 : Option Nat} {ends_a0 : Option Nat} {letters_a0 : Option Nat} {length_a0 : Int32} (e_a0 : h a0 = some (.inr (3, [va_rf kinds_a0, va_rf starts_a0, va_rf ends_a0, va_rf letters_a0, .int length_a0]))) (kt : length_a0 ≤ x2 → xw G m_Parts_wordEnd F L bc bs pr px 28 [none, none, some (.int x2)] [] h) (kf : ¬ length_a0 ≤ x2 → xw G m_Parts_wordEnd F L bc bs pr px 10 [some (.ref a0), none, some (.int x2)] [] h) : xw G m_Parts_wordEnd F L bc bs pr px 2 [some (.ref a0), none, some (.int x2)] [] h := by
  refine x_iload_n d_Parts_wordEnd_2 rfl rfl ?_
  refine x_aload_n d_Parts_wordEnd_3 rfl rfl ?_
  refine x_get d_Parts_wordEnd_4 f_Parts_25 e_a0 rfl ?_
  refine x_icmp_ge (tgt := 28) d_Parts_wordEnd_7 (by decide) (fun hc => ?_) (fun hc => ?_)
  · exact x_le (lv' := [none, none, some (.int x2)]) (xw_le_n (xw_le_n (xw_le_s xw_le_e))) (kt hc)
  · exact kf hc
theorem s_Parts_wordEnd_10 {G : xw_G} {F L bc bs : Nat} {pr : Option Value → xw_A → Prop} {px : String → xw_A → Prop} {h : xw_A} {a0 : Nat} {x2 : Int32} {kinds_a0 : Option Nat} {starts_a0 : Option Nat} {ends_a0 : Option Nat} {letters_a0 : Nat} {length_a0 : Int32} {n_letters_a0 : Nat} {f_letters_a0 : Nat → Int32} (e_a0 : h a0 = some (.inr (3, [va_rf kinds_a0, va_rf starts_a0, va_rf ends_a0, .ref letters_a0, .int length_a0]))) (e_letters_a0 : h letters_a0 = some (.inl (1, n_letters_a0, .inl f_letters_a0))) (i_15 : vp_in x2 n_letters_a0) (k : xw G m_Parts_wordEnd F L bc bs pr px 16 [some (.ref a0), none, some (.int x2)] [.int (f_letters_a0 x2.toNatClampNeg)] h) : xw G m_Parts_wordEnd F L bc bs pr px 10 [some (.ref a0), none, some (.int x2)] [] h := by
  refine x_aload_n d_Parts_wordEnd_10 rfl rfl ?_
  refine x_get d_Parts_wordEnd_11 f_Parts_21 e_a0 rfl ?_
  refine x_iload_n d_Parts_wordEnd_14 rfl rfl ?_
  refine x_cald d_Parts_wordEnd_15 e_letters_a0 i_15 ?_
  exact k
theorem s_Parts_wordEnd_19 {G : xw_G} {F L bc bs : Nat} {pr : Option Value → xw_A → Prop} {px : String → xw_A → Prop} {h : xw_A} {a0 : Nat} {x2 : Int32} {y0 : Int32}  (kt : y0 = 0 → xw G m_Parts_wordEnd F L bc bs pr px 28 [none, none, some (.int x2)] [] h) (kf : ¬ y0 = 0 → xw G m_Parts_wordEnd F L bc bs pr px 22 [some (.ref a0), none, some (.int x2)] [] h) : xw G m_Parts_wordEnd F L bc bs pr px 19 [some (.ref a0), none, some (.int x2)] [.int y0] h := by
  refine x_if_eq (tgt := 28) d_Parts_wordEnd_19 (by decide) (fun hc => ?_) (fun hc => ?_)
  · exact x_le (lv' := [none, none, some (.int x2)]) (xw_le_n (xw_le_n (xw_le_s xw_le_e))) (kt hc)
  · exact kf hc
theorem s_Parts_wordEnd_22 {G : xw_G} {F L bc bs : Nat} {pr : Option Value → xw_A → Prop} {px : String → xw_A → Prop} {h : xw_A} {a0 : Nat} {x2 : Int32}  (k : xw G m_Parts_wordEnd F L bc bs pr px 2 [some (.ref a0), none, some (.int (x2 + 1))] [] h) : xw G m_Parts_wordEnd F L bc bs pr px 22 [some (.ref a0), none, some (.int x2)] [] h := by
  refine x_iinc (v := x2 + 1) d_Parts_wordEnd_22 rfl (by rfl) (by decide) trivial ?_
  show xw G m_Parts_wordEnd F L bc bs pr px 25 [some (.ref a0), none, some (.int (x2 + 1))] [] h
  refine x_goto (tgt := 2) d_Parts_wordEnd_25 (by decide) ?_
  exact k
theorem s_Parts_wordEnd_28 {G : xw_G} {F L bc bs : Nat} {pr : Option Value → xw_A → Prop} {px : String → xw_A → Prop} {h : xw_A} {x2 : Int32}  (kr : pr (some (.int x2)) h) : xw G m_Parts_wordEnd F L bc bs pr px 28 [none, none, some (.int x2)] [] h := by
  refine x_iload_n d_Parts_wordEnd_28 rfl rfl ?_
  exact x_iret d_Parts_wordEnd_29 rfl kr
theorem s_Parts_wordKind_0 {G : xw_G} {F L bc bs : Nat} {pr : Option Value → xw_A → Prop} {px : String → xw_A → Prop} {h : xw_A} {a0 : Nat} {x1 : Int32} {x2 : Int32}  (kl : xw G m_Parts_wordKind F L bc bs pr px 3 [some (.ref a0), some (.int x1), some (.int x2)] [.int x2, .int x1, .ref a0] h) : xw G m_Parts_wordKind F L bc bs pr px 0 [some (.ref a0), some (.int x1), some (.int x2)] [] h := by
  refine x_aload_n d_Parts_wordKind_0 rfl rfl ?_
  refine x_iload_n d_Parts_wordKind_1 rfl rfl ?_
  refine x_iload_n d_Parts_wordKind_2 rfl rfl ?_
  exact kl
theorem s_Parts_wordKind_8 {G : xw_G} {F L bc bs : Nat} {pr : Option Value → xw_A → Prop} {px : String → xw_A → Prop} {h : xw_A} {a0 : Nat} {x1 : Int32} {x2 : Int32} {y0 : Int32}  (kt : y0 = 0 → xw G m_Parts_wordKind F L bc bs pr px 13 [some (.ref a0), some (.int x1), some (.int x2)] [] h) (kf : ¬ y0 = 0 → xw G m_Parts_wordKind F L bc bs pr px 11 [none, none, none] [] h) : xw G m_Parts_wordKind F L bc bs pr px 8 [some (.ref a0), some (.int x1), some (.int x2)] [.int y0] h := by
  refine x_if_eq (tgt := 13) d_Parts_wordKind_8 (by decide) (fun hc => ?_) (fun hc => ?_)
  · exact kt hc
  · exact x_le (lv' := [none, none, none]) (xw_le_n (xw_le_n (xw_le_n xw_le_e))) (kf hc)
theorem s_Parts_wordKind_11 {G : xw_G} {F L bc bs : Nat} {pr : Option Value → xw_A → Prop} {px : String → xw_A → Prop} {h : xw_A}   (kr : pr (some (.int 5)) h) : xw G m_Parts_wordKind F L bc bs pr px 11 [none, none, none] [] h := by
  refine x_iconst (v := 5) d_Parts_wordKind_11 (by decide) ?_
  exact x_iret d_Parts_wordKind_12 rfl kr
theorem s_Parts_wordKind_13 {G : xw_G} {F L bc bs : Nat} {pr : Option Value → xw_A → Prop} {px : String → xw_A → Prop} {h : xw_A} {a0 : Nat} {x1 : Int32} {x2 : Int32}  (kl : xw G m_Parts_wordKind F L bc bs pr px 16 [some (.ref a0), some (.int x1), some (.int x2)] [.int x2, .int x1, .ref a0] h) : xw G m_Parts_wordKind F L bc bs pr px 13 [some (.ref a0), some (.int x1), some (.int x2)] [] h := by
  refine x_aload_n d_Parts_wordKind_13 rfl rfl ?_
  refine x_iload_n d_Parts_wordKind_14 rfl rfl ?_
  refine x_iload_n d_Parts_wordKind_15 rfl rfl ?_
  exact kl
theorem s_Parts_wordKind_21 {G : xw_G} {F L bc bs : Nat} {pr : Option Value → xw_A → Prop} {px : String → xw_A → Prop} {h : xw_A} {a0 : Nat} {x1 : Int32} {x2 : Int32} {y0 : Int32}  (kt : y0 = 0 → xw G m_Parts_wordKind F L bc bs pr px 27 [some (.ref a0), some (.int x1), some (.int x2)] [] h) (kf : ¬ y0 = 0 → xw G m_Parts_wordKind F L bc bs pr px 24 [none, none, none] [] h) : xw G m_Parts_wordKind F L bc bs pr px 21 [some (.ref a0), some (.int x1), some (.int x2)] [.int y0] h := by
  refine x_if_eq (tgt := 27) d_Parts_wordKind_21 (by decide) (fun hc => ?_) (fun hc => ?_)
  · exact kt hc
  · exact x_le (lv' := [none, none, none]) (xw_le_n (xw_le_n (xw_le_n xw_le_e))) (kf hc)
theorem s_Parts_wordKind_24 {G : xw_G} {F L bc bs : Nat} {pr : Option Value → xw_A → Prop} {px : String → xw_A → Prop} {h : xw_A}   (kr : pr (some (.int 6)) h) : xw G m_Parts_wordKind F L bc bs pr px 24 [none, none, none] [] h := by
  refine x_bipush (v := 6) d_Parts_wordKind_24 (by decide) ?_
  exact x_iret d_Parts_wordKind_26 rfl kr
theorem s_Parts_wordKind_27 {G : xw_G} {F L bc bs : Nat} {pr : Option Value → xw_A → Prop} {px : String → xw_A → Prop} {h : xw_A} {a0 : Nat} {x1 : Int32} {x2 : Int32}  (kl : xw G m_Parts_wordKind F L bc bs pr px 30 [some (.ref a0), some (.int x1), some (.int x2)] [.int x2, .int x1, .ref a0] h) : xw G m_Parts_wordKind F L bc bs pr px 27 [some (.ref a0), some (.int x1), some (.int x2)] [] h := by
  refine x_aload_n d_Parts_wordKind_27 rfl rfl ?_
  refine x_iload_n d_Parts_wordKind_28 rfl rfl ?_
  refine x_iload_n d_Parts_wordKind_29 rfl rfl ?_
  exact kl
theorem s_Parts_wordKind_35 {G : xw_G} {F L bc bs : Nat} {pr : Option Value → xw_A → Prop} {px : String → xw_A → Prop} {h : xw_A} {a0 : Nat} {x1 : Int32} {x2 : Int32} {y0 : Int32}  (kt : y0 = 0 → xw G m_Parts_wordKind F L bc bs pr px 41 [some (.ref a0), some (.int x1), some (.int x2)] [] h) (kf : ¬ y0 = 0 → xw G m_Parts_wordKind F L bc bs pr px 38 [none, none, none] [] h) : xw G m_Parts_wordKind F L bc bs pr px 35 [some (.ref a0), some (.int x1), some (.int x2)] [.int y0] h := by
  refine x_if_eq (tgt := 41) d_Parts_wordKind_35 (by decide) (fun hc => ?_) (fun hc => ?_)
  · exact kt hc
  · exact x_le (lv' := [none, none, none]) (xw_le_n (xw_le_n (xw_le_n xw_le_e))) (kf hc)
theorem s_Parts_wordKind_38 {G : xw_G} {F L bc bs : Nat} {pr : Option Value → xw_A → Prop} {px : String → xw_A → Prop} {h : xw_A}   (kr : pr (some (.int 7)) h) : xw G m_Parts_wordKind F L bc bs pr px 38 [none, none, none] [] h := by
  refine x_bipush (v := 7) d_Parts_wordKind_38 (by decide) ?_
  exact x_iret d_Parts_wordKind_40 rfl kr
theorem s_Parts_wordKind_41 {G : xw_G} {F L bc bs : Nat} {pr : Option Value → xw_A → Prop} {px : String → xw_A → Prop} {h : xw_A} {a0 : Nat} {x1 : Int32} {x2 : Int32}  (kl : xw G m_Parts_wordKind F L bc bs pr px 44 [some (.ref a0), some (.int x1), some (.int x2)] [.int x2, .int x1, .ref a0] h) : xw G m_Parts_wordKind F L bc bs pr px 41 [some (.ref a0), some (.int x1), some (.int x2)] [] h := by
  refine x_aload_n d_Parts_wordKind_41 rfl rfl ?_
  refine x_iload_n d_Parts_wordKind_42 rfl rfl ?_
  refine x_iload_n d_Parts_wordKind_43 rfl rfl ?_
  exact kl
theorem s_Parts_wordKind_49 {G : xw_G} {F L bc bs : Nat} {pr : Option Value → xw_A → Prop} {px : String → xw_A → Prop} {h : xw_A} {a0 : Nat} {x2 : Int32} {y0 : Int32}  (kt : y0 = 0 → xw G m_Parts_wordKind F L bc bs pr px 55 [some (.ref a0), none, some (.int x2)] [] h) (kf : ¬ y0 = 0 → xw G m_Parts_wordKind F L bc bs pr px 52 [none, none, none] [] h) : xw G m_Parts_wordKind F L bc bs pr px 49 [some (.ref a0), none, some (.int x2)] [.int y0] h := by
  refine x_if_eq (tgt := 55) d_Parts_wordKind_49 (by decide) (fun hc => ?_) (fun hc => ?_)
  · exact kt hc
  · exact x_le (lv' := [none, none, none]) (xw_le_n (xw_le_n (xw_le_n xw_le_e))) (kf hc)
theorem s_Parts_wordKind_52 {G : xw_G} {F L bc bs : Nat} {pr : Option Value → xw_A → Prop} {px : String → xw_A → Prop} {h : xw_A}   (kr : pr (some (.int 8)) h) : xw G m_Parts_wordKind F L bc bs pr px 52 [none, none, none] [] h := by
  refine x_bipush (v := 8) d_Parts_wordKind_52 (by decide) ?_
  exact x_iret d_Parts_wordKind_54 rfl kr
theorem s_Parts_wordKind_55 {G : xw_G} {F L bc bs : Nat} {pr : Option Value → xw_A → Prop} {px : String → xw_A → Prop} {h : xw_A} {a0 : Nat} {x2 : Int32} {kinds_a0 : Option Nat} {starts_a0 : Option Nat} {ends_a0 : Option Nat} {letters_a0 : Option Nat} {length_a0 : Int32} (e_a0 : h a0 = some (.inr (3, [va_rf kinds_a0, va_rf starts_a0, va_rf ends_a0, va_rf letters_a0, .int length_a0]))) (kt : length_a0 ≤ x2 → xw G m_Parts_wordKind F L bc bs pr px 78 [none, none, none] [] h) (kf : ¬ length_a0 ≤ x2 → xw G m_Parts_wordKind F L bc bs pr px 63 [some (.ref a0), none, some (.int x2)] [] h) : xw G m_Parts_wordKind F L bc bs pr px 55 [some (.ref a0), none, some (.int x2)] [] h := by
  refine x_iload_n d_Parts_wordKind_55 rfl rfl ?_
  refine x_aload_n d_Parts_wordKind_56 rfl rfl ?_
  refine x_get d_Parts_wordKind_57 f_Parts_25 e_a0 rfl ?_
  refine x_icmp_ge (tgt := 78) d_Parts_wordKind_60 (by decide) (fun hc => ?_) (fun hc => ?_)
  · exact x_le (lv' := [none, none, none]) (xw_le_n (xw_le_n (xw_le_n xw_le_e))) (kt hc)
  · exact kf hc
theorem s_Parts_wordKind_63 {G : xw_G} {F L bc bs : Nat} {pr : Option Value → xw_A → Prop} {px : String → xw_A → Prop} {h : xw_A} {a0 : Nat} {x2 : Int32} {kinds_a0 : Option Nat} {starts_a0 : Option Nat} {ends_a0 : Option Nat} {letters_a0 : Nat} {length_a0 : Int32} {n_letters_a0 : Nat} {f_letters_a0 : Nat → Int32} (e_a0 : h a0 = some (.inr (3, [va_rf kinds_a0, va_rf starts_a0, va_rf ends_a0, .ref letters_a0, .int length_a0]))) (e_letters_a0 : h letters_a0 = some (.inl (1, n_letters_a0, .inl f_letters_a0))) (i_68 : vp_in x2 n_letters_a0) (kt : ¬ (f_letters_a0 x2.toNatClampNeg) = 58 → xw G m_Parts_wordKind F L bc bs pr px 78 [none, none, none] [] h) (kf : (f_letters_a0 x2.toNatClampNeg) = 58 → xw G m_Parts_wordKind F L bc bs pr px 74 [none, none, none] [] h) : xw G m_Parts_wordKind F L bc bs pr px 63 [some (.ref a0), none, some (.int x2)] [] h := by
  refine x_aload_n d_Parts_wordKind_63 rfl rfl ?_
  refine x_get d_Parts_wordKind_64 f_Parts_21 e_a0 rfl ?_
  refine x_iload_n d_Parts_wordKind_67 rfl rfl ?_
  refine x_cald d_Parts_wordKind_68 e_letters_a0 i_68 ?_
  refine x_bipush (v := 58) d_Parts_wordKind_69 (by decide) ?_
  refine x_icmp_ne (tgt := 78) d_Parts_wordKind_71 (by decide) (fun hc => ?_) (fun hc => ?_)
  · exact x_le (lv' := [none, none, none]) (xw_le_n (xw_le_n (xw_le_n xw_le_e))) (kt hc)
  · exact x_le (lv' := [none, none, none]) (xw_le_n (xw_le_n (xw_le_n xw_le_e))) (kf hc)
theorem s_Parts_wordKind_74 {G : xw_G} {F L bc bs : Nat} {pr : Option Value → xw_A → Prop} {px : String → xw_A → Prop} {h : xw_A}   (k : xw G m_Parts_wordKind F L bc bs pr px 79 [none, none, none] [.int 3] h) : xw G m_Parts_wordKind F L bc bs pr px 74 [none, none, none] [] h := by
  refine x_iconst (v := 3) d_Parts_wordKind_74 (by decide) ?_
  refine x_goto (tgt := 79) d_Parts_wordKind_75 (by decide) ?_
  exact k
theorem s_Parts_wordKind_78 {G : xw_G} {F L bc bs : Nat} {pr : Option Value → xw_A → Prop} {px : String → xw_A → Prop} {h : xw_A}   (k : xw G m_Parts_wordKind F L bc bs pr px 79 [none, none, none] [.int 2] h) : xw G m_Parts_wordKind F L bc bs pr px 78 [none, none, none] [] h := by
  refine x_iconst (v := 2) d_Parts_wordKind_78 (by decide) ?_
  exact k
theorem s_Parts_wordKind_79 {G : xw_G} {F L bc bs : Nat} {pr : Option Value → xw_A → Prop} {px : String → xw_A → Prop} {h : xw_A} {y0 : Int32}  (kr : pr (some (.int y0)) h) : xw G m_Parts_wordKind F L bc bs pr px 79 [none, none, none] [.int y0] h := by
  exact x_iret d_Parts_wordKind_79 rfl kr
theorem s_Parts_isName_0 {G : xw_G} {F L bc bs : Nat} {pr : Option Value → xw_A → Prop} {px : String → xw_A → Prop} {h : xw_A} {a0 : Nat} {x1 : Int32} {x2 : Int32} {a3 : Nat}  (k : xw G m_Parts_isName F L bc bs pr px 4 [some (.ref a0), some (.int x1), some (.int x2), some (.ref a3), none] [.ref a3, .int (x2 - x1)] h) : xw G m_Parts_isName F L bc bs pr px 0 [some (.ref a0), some (.int x1), some (.int x2), some (.ref a3), none] [] h := by
  refine x_iload_n d_Parts_isName_0 rfl rfl ?_
  refine x_iload_n d_Parts_isName_1 rfl rfl ?_
  refine x_isub d_Parts_isName_2 ?_
  refine x_aload_n d_Parts_isName_3 rfl rfl ?_
  exact k
theorem s_Parts_isName_7 {G : xw_G} {F L bc bs : Nat} {pr : Option Value → xw_A → Prop} {px : String → xw_A → Prop} {h : xw_A} {a0 : Nat} {x1 : Int32} {a3 : Nat} {y0 : Int32} {y1 : Int32}  (kt : y1 = y0 → xw G m_Parts_isName F L bc bs pr px 12 [some (.ref a0), some (.int x1), none, some (.ref a3), none] [] h) (kf : ¬ y1 = y0 → xw G m_Parts_isName F L bc bs pr px 10 [none, none, none, none, none] [] h) : xw G m_Parts_isName F L bc bs pr px 7 [some (.ref a0), some (.int x1), none, some (.ref a3), none] [.int y0, .int y1] h := by
  refine x_icmp_eq (tgt := 12) d_Parts_isName_7 (by decide) (fun hc => ?_) (fun hc => ?_)
  · exact kt hc
  · exact x_le (lv' := [none, none, none, none, none]) (xw_le_n (xw_le_n (xw_le_n (xw_le_n (xw_le_n xw_le_e))))) (kf hc)
theorem s_Parts_isName_10 {G : xw_G} {F L bc bs : Nat} {pr : Option Value → xw_A → Prop} {px : String → xw_A → Prop} {h : xw_A}   (kr : pr (some (.int 0)) h) : xw G m_Parts_isName F L bc bs pr px 10 [none, none, none, none, none] [] h := by
  refine x_iconst (v := 0) d_Parts_isName_10 (by decide) ?_
  exact x_zret d_Parts_isName_11 rfl rfl kr
theorem s_Parts_isName_12 {G : xw_G} {F L bc bs : Nat} {pr : Option Value → xw_A → Prop} {px : String → xw_A → Prop} {h : xw_A} {a0 : Nat} {x1 : Int32} {a3 : Nat}  (k : xw G m_Parts_isName F L bc bs pr px 15 [some (.ref a0), some (.int x1), none, some (.ref a3), some (.int 0)] [] h) : xw G m_Parts_isName F L bc bs pr px 12 [some (.ref a0), some (.int x1), none, some (.ref a3), none] [] h := by
  refine x_iconst (v := 0) d_Parts_isName_12 (by decide) ?_
  refine x_istore d_Parts_isName_13 (by decide) rfl ?_
  show xw G m_Parts_isName F L bc bs pr px 15 [some (.ref a0), some (.int x1), none, some (.ref a3), some (.int 0)] [] h
  exact k
theorem s_Parts_isName_15 {G : xw_G} {F L bc bs : Nat} {pr : Option Value → xw_A → Prop} {px : String → xw_A → Prop} {h : xw_A} {a0 : Nat} {x1 : Int32} {a3 : Nat} {x4 : Int32}  (k : xw G m_Parts_isName F L bc bs pr px 18 [some (.ref a0), some (.int x1), none, some (.ref a3), some (.int x4)] [.ref a3, .int x4] h) : xw G m_Parts_isName F L bc bs pr px 15 [some (.ref a0), some (.int x1), none, some (.ref a3), some (.int x4)] [] h := by
  refine x_iload d_Parts_isName_15 rfl ?_
  refine x_aload_n d_Parts_isName_17 rfl rfl ?_
  exact k
theorem s_Parts_isName_21 {G : xw_G} {F L bc bs : Nat} {pr : Option Value → xw_A → Prop} {px : String → xw_A → Prop} {h : xw_A} {a0 : Nat} {x1 : Int32} {a3 : Nat} {x4 : Int32} {y0 : Int32}  (kt : y0 ≤ x4 → xw G m_Parts_isName F L bc bs pr px 50 [none, none, none, none, none] [] h) (kf : ¬ y0 ≤ x4 → xw G m_Parts_isName F L bc bs pr px 24 [some (.ref a0), some (.int x1), none, some (.ref a3), some (.int x4)] [] h) : xw G m_Parts_isName F L bc bs pr px 21 [some (.ref a0), some (.int x1), none, some (.ref a3), some (.int x4)] [.int y0, .int x4] h := by
  refine x_icmp_ge (tgt := 50) d_Parts_isName_21 (by decide) (fun hc => ?_) (fun hc => ?_)
  · exact x_le (lv' := [none, none, none, none, none]) (xw_le_n (xw_le_n (xw_le_n (xw_le_n (xw_le_n xw_le_e))))) (kt hc)
  · exact kf hc
theorem s_Parts_isName_24 {G : xw_G} {F L bc bs : Nat} {pr : Option Value → xw_A → Prop} {px : String → xw_A → Prop} {h : xw_A} {a0 : Nat} {x1 : Int32} {a3 : Nat} {x4 : Int32} {kinds_a0 : Option Nat} {starts_a0 : Option Nat} {ends_a0 : Option Nat} {letters_a0 : Nat} {length_a0 : Int32} {n_letters_a0 : Nat} {f_letters_a0 : Nat → Int32} (e_a0 : h a0 = some (.inr (3, [va_rf kinds_a0, va_rf starts_a0, va_rf ends_a0, .ref letters_a0, .int length_a0]))) (e_letters_a0 : h letters_a0 = some (.inl (1, n_letters_a0, .inl f_letters_a0))) (i_32 : vp_in (x1 + x4) n_letters_a0) (k : xw G m_Parts_isName F L bc bs pr px 36 [some (.ref a0), some (.int x1), none, some (.ref a3), some (.int x4)] [.int x4, .ref a3, .int (f_letters_a0 (x1 + x4).toNatClampNeg)] h) : xw G m_Parts_isName F L bc bs pr px 24 [some (.ref a0), some (.int x1), none, some (.ref a3), some (.int x4)] [] h := by
  refine x_aload_n d_Parts_isName_24 rfl rfl ?_
  refine x_get d_Parts_isName_25 f_Parts_21 e_a0 rfl ?_
  refine x_iload_n d_Parts_isName_28 rfl rfl ?_
  refine x_iload d_Parts_isName_29 rfl ?_
  refine x_iadd d_Parts_isName_31 ?_
  refine x_cald d_Parts_isName_32 e_letters_a0 i_32 ?_
  refine x_aload_n d_Parts_isName_33 rfl rfl ?_
  refine x_iload d_Parts_isName_34 rfl ?_
  exact k
theorem s_Parts_isName_39 {G : xw_G} {F L bc bs : Nat} {pr : Option Value → xw_A → Prop} {px : String → xw_A → Prop} {h : xw_A} {a0 : Nat} {x1 : Int32} {a3 : Nat} {x4 : Int32} {y0 : Int32} {y1 : Int32}  (kt : y1 = y0 → xw G m_Parts_isName F L bc bs pr px 44 [some (.ref a0), some (.int x1), none, some (.ref a3), some (.int x4)] [] h) (kf : ¬ y1 = y0 → xw G m_Parts_isName F L bc bs pr px 42 [none, none, none, none, none] [] h) : xw G m_Parts_isName F L bc bs pr px 39 [some (.ref a0), some (.int x1), none, some (.ref a3), some (.int x4)] [.int y0, .int y1] h := by
  refine x_icmp_eq (tgt := 44) d_Parts_isName_39 (by decide) (fun hc => ?_) (fun hc => ?_)
  · exact kt hc
  · exact x_le (lv' := [none, none, none, none, none]) (xw_le_n (xw_le_n (xw_le_n (xw_le_n (xw_le_n xw_le_e))))) (kf hc)
theorem s_Parts_isName_42 {G : xw_G} {F L bc bs : Nat} {pr : Option Value → xw_A → Prop} {px : String → xw_A → Prop} {h : xw_A}   (kr : pr (some (.int 0)) h) : xw G m_Parts_isName F L bc bs pr px 42 [none, none, none, none, none] [] h := by
  refine x_iconst (v := 0) d_Parts_isName_42 (by decide) ?_
  exact x_zret d_Parts_isName_43 rfl rfl kr
theorem s_Parts_isName_44 {G : xw_G} {F L bc bs : Nat} {pr : Option Value → xw_A → Prop} {px : String → xw_A → Prop} {h : xw_A} {a0 : Nat} {x1 : Int32} {a3 : Nat} {x4 : Int32}  (k : xw G m_Parts_isName F L bc bs pr px 15 [some (.ref a0), some (.int x1), none, some (.ref a3), some (.int (x4 + 1))] [] h) : xw G m_Parts_isName F L bc bs pr px 44 [some (.ref a0), some (.int x1), none, some (.ref a3), some (.int x4)] [] h := by
  refine x_iinc (v := x4 + 1) d_Parts_isName_44 rfl (by rfl) (by decide) rfl ?_
  show xw G m_Parts_isName F L bc bs pr px 47 [some (.ref a0), some (.int x1), none, some (.ref a3), some (.int (x4 + 1))] [] h
  refine x_goto (tgt := 15) d_Parts_isName_47 (by decide) ?_
  exact k
theorem s_Parts_isName_50 {G : xw_G} {F L bc bs : Nat} {pr : Option Value → xw_A → Prop} {px : String → xw_A → Prop} {h : xw_A}   (kr : pr (some (.int 1)) h) : xw G m_Parts_isName F L bc bs pr px 50 [none, none, none, none, none] [] h := by
  refine x_iconst (v := 1) d_Parts_isName_50 (by decide) ?_
  exact x_zret d_Parts_isName_51 rfl rfl kr
theorem s_Parts_quoteEnd_0 {G : xw_G} {F L bc bs : Nat} {pr : Option Value → xw_A → Prop} {px : String → xw_A → Prop} {h : xw_A} {a0 : Nat} {x1 : Int32}  (k : xw G m_Parts_quoteEnd F L bc bs pr px 4 [some (.ref a0), some (.int x1), some (.int (x1 + 1))] [] h) : xw G m_Parts_quoteEnd F L bc bs pr px 0 [some (.ref a0), some (.int x1), none] [] h := by
  refine x_iload_n d_Parts_quoteEnd_0 rfl rfl ?_
  refine x_iconst (v := 1) d_Parts_quoteEnd_1 (by decide) ?_
  refine x_iadd d_Parts_quoteEnd_2 ?_
  refine x_istore_n d_Parts_quoteEnd_3 rfl (by decide) rfl ?_
  show xw G m_Parts_quoteEnd F L bc bs pr px 4 [some (.ref a0), some (.int x1), some (.int (x1 + 1))] [] h
  exact k
theorem s_Parts_quoteEnd_4 {G : xw_G} {F L bc bs : Nat} {pr : Option Value → xw_A → Prop} {px : String → xw_A → Prop} {h : xw_A} {a0 : Nat} {x1 : Int32} {x2 : Int32} {kinds_a0 : Option Nat} {starts_a0 : Option Nat} {ends_a0 : Option Nat} {letters_a0 : Option Nat} {length_a0 : Int32} (e_a0 : h a0 = some (.inr (3, [va_rf kinds_a0, va_rf starts_a0, va_rf ends_a0, va_rf letters_a0, .int length_a0]))) (kt : length_a0 ≤ x2 → xw G m_Parts_quoteEnd F L bc bs pr px 33 [none, some (.int x1), none] [] h) (kf : ¬ length_a0 ≤ x2 → xw G m_Parts_quoteEnd F L bc bs pr px 12 [some (.ref a0), some (.int x1), some (.int x2)] [] h) : xw G m_Parts_quoteEnd F L bc bs pr px 4 [some (.ref a0), some (.int x1), some (.int x2)] [] h := by
  refine x_iload_n d_Parts_quoteEnd_4 rfl rfl ?_
  refine x_aload_n d_Parts_quoteEnd_5 rfl rfl ?_
  refine x_get d_Parts_quoteEnd_6 f_Parts_25 e_a0 rfl ?_
  refine x_icmp_ge (tgt := 33) d_Parts_quoteEnd_9 (by decide) (fun hc => ?_) (fun hc => ?_)
  · exact x_le (lv' := [none, some (.int x1), none]) (xw_le_n (xw_le_s (xw_le_n xw_le_e))) (kt hc)
  · exact kf hc
theorem s_Parts_quoteEnd_12 {G : xw_G} {F L bc bs : Nat} {pr : Option Value → xw_A → Prop} {px : String → xw_A → Prop} {h : xw_A} {a0 : Nat} {x1 : Int32} {x2 : Int32} {kinds_a0 : Option Nat} {starts_a0 : Option Nat} {ends_a0 : Option Nat} {letters_a0 : Nat} {length_a0 : Int32} {n_letters_a0 : Nat} {f_letters_a0 : Nat → Int32} (e_a0 : h a0 = some (.inr (3, [va_rf kinds_a0, va_rf starts_a0, va_rf ends_a0, .ref letters_a0, .int length_a0]))) (e_letters_a0 : h letters_a0 = some (.inl (1, n_letters_a0, .inl f_letters_a0))) (i_17 : vp_in x2 n_letters_a0) (kt : ¬ (f_letters_a0 x2.toNatClampNeg) = 34 → xw G m_Parts_quoteEnd F L bc bs pr px 27 [some (.ref a0), some (.int x1), some (.int x2)] [] h) (kf : (f_letters_a0 x2.toNatClampNeg) = 34 → xw G m_Parts_quoteEnd F L bc bs pr px 23 [none, none, some (.int x2)] [] h) : xw G m_Parts_quoteEnd F L bc bs pr px 12 [some (.ref a0), some (.int x1), some (.int x2)] [] h := by
  refine x_aload_n d_Parts_quoteEnd_12 rfl rfl ?_
  refine x_get d_Parts_quoteEnd_13 f_Parts_21 e_a0 rfl ?_
  refine x_iload_n d_Parts_quoteEnd_16 rfl rfl ?_
  refine x_cald d_Parts_quoteEnd_17 e_letters_a0 i_17 ?_
  refine x_bipush (v := 34) d_Parts_quoteEnd_18 (by decide) ?_
  refine x_icmp_ne (tgt := 27) d_Parts_quoteEnd_20 (by decide) (fun hc => ?_) (fun hc => ?_)
  · exact kt hc
  · exact x_le (lv' := [none, none, some (.int x2)]) (xw_le_n (xw_le_n (xw_le_s xw_le_e))) (kf hc)
theorem s_Parts_quoteEnd_23 {G : xw_G} {F L bc bs : Nat} {pr : Option Value → xw_A → Prop} {px : String → xw_A → Prop} {h : xw_A} {x2 : Int32}  (kr : pr (some (.int (x2 + 1))) h) : xw G m_Parts_quoteEnd F L bc bs pr px 23 [none, none, some (.int x2)] [] h := by
  refine x_iload_n d_Parts_quoteEnd_23 rfl rfl ?_
  refine x_iconst (v := 1) d_Parts_quoteEnd_24 (by decide) ?_
  refine x_iadd d_Parts_quoteEnd_25 ?_
  exact x_iret d_Parts_quoteEnd_26 rfl kr
theorem s_Parts_quoteEnd_27 {G : xw_G} {F L bc bs : Nat} {pr : Option Value → xw_A → Prop} {px : String → xw_A → Prop} {h : xw_A} {a0 : Nat} {x1 : Int32} {x2 : Int32}  (k : xw G m_Parts_quoteEnd F L bc bs pr px 4 [some (.ref a0), some (.int x1), some (.int (x2 + 1))] [] h) : xw G m_Parts_quoteEnd F L bc bs pr px 27 [some (.ref a0), some (.int x1), some (.int x2)] [] h := by
  refine x_iinc (v := x2 + 1) d_Parts_quoteEnd_27 rfl (by rfl) (by decide) rfl ?_
  show xw G m_Parts_quoteEnd F L bc bs pr px 30 [some (.ref a0), some (.int x1), some (.int (x2 + 1))] [] h
  refine x_goto (tgt := 4) d_Parts_quoteEnd_30 (by decide) ?_
  exact k
theorem s_Parts_quoteEnd_33 {G : xw_G} {F L bc bs : Nat} {pr : Option Value → xw_A → Prop} {px : String → xw_A → Prop} {h : xw_A} {x1 : Int32}  (kr : pr (some (.int x1)) h) : xw G m_Parts_quoteEnd F L bc bs pr px 33 [none, some (.int x1), none] [] h := by
  refine x_iload_n d_Parts_quoteEnd_33 rfl rfl ?_
  exact x_iret d_Parts_quoteEnd_34 rfl kr
theorem s_Parts_columnNamed_0 {G : xw_G} {F L bc bs : Nat} {pr : Option Value → xw_A → Prop} {px : String → xw_A → Prop} {h : xw_A} {a0 : Nat} {x1 : Int32} {kinds_a0 : Option Nat} {starts_a0 : Nat} {ends_a0 : Nat} {letters_a0 : Option Nat} {length_a0 : Int32} {n_ends_a0 : Nat} {f_ends_a0 : Nat → Int32} {n_starts_a0 : Nat} {f_starts_a0 : Nat → Int32} (e_a0 : h a0 = some (.inr (3, [va_rf kinds_a0, .ref starts_a0, .ref ends_a0, va_rf letters_a0, .int length_a0]))) (e_ends_a0 : h ends_a0 = some (.inl (0, n_ends_a0, .inl f_ends_a0))) (i_5 : vp_in x1 n_ends_a0) (e_starts_a0 : h starts_a0 = some (.inl (0, n_starts_a0, .inl f_starts_a0))) (i_11 : vp_in x1 n_starts_a0) (kt : ((f_ends_a0 x1.toNatClampNeg) - (f_starts_a0 x1.toNatClampNeg)) = 1 → xw G m_Parts_columnNamed F L bc bs pr px 19 [some (.ref a0), some (.int x1), none] [] h) (kf : ¬ ((f_ends_a0 x1.toNatClampNeg) - (f_starts_a0 x1.toNatClampNeg)) = 1 → xw G m_Parts_columnNamed F L bc bs pr px 17 [none, none, none] [] h) : xw G m_Parts_columnNamed F L bc bs pr px 0 [some (.ref a0), some (.int x1), none] [] h := by
  refine x_aload_n d_Parts_columnNamed_0 rfl rfl ?_
  refine x_get d_Parts_columnNamed_1 f_Parts_18 e_a0 rfl ?_
  refine x_iload_n d_Parts_columnNamed_4 rfl rfl ?_
  refine x_iald d_Parts_columnNamed_5 e_ends_a0 i_5 ?_
  refine x_aload_n d_Parts_columnNamed_6 rfl rfl ?_
  refine x_get d_Parts_columnNamed_7 f_Parts_15 e_a0 rfl ?_
  refine x_iload_n d_Parts_columnNamed_10 rfl rfl ?_
  refine x_iald d_Parts_columnNamed_11 e_starts_a0 i_11 ?_
  refine x_isub d_Parts_columnNamed_12 ?_
  refine x_iconst (v := 1) d_Parts_columnNamed_13 (by decide) ?_
  refine x_icmp_eq (tgt := 19) d_Parts_columnNamed_14 (by decide) (fun hc => ?_) (fun hc => ?_)
  · exact kt hc
  · exact x_le (lv' := [none, none, none]) (xw_le_n (xw_le_n (xw_le_n xw_le_e))) (kf hc)
theorem s_Parts_columnNamed_17 {G : xw_G} {F L bc bs : Nat} {pr : Option Value → xw_A → Prop} {px : String → xw_A → Prop} {h : xw_A}   (kr : pr (some (.int ((-1)))) h) : xw G m_Parts_columnNamed F L bc bs pr px 17 [none, none, none] [] h := by
  refine x_iconst (v := -1) d_Parts_columnNamed_17 (by decide) ?_
  exact x_iret d_Parts_columnNamed_18 rfl kr
theorem s_Parts_columnNamed_19 {G : xw_G} {F L bc bs : Nat} {pr : Option Value → xw_A → Prop} {px : String → xw_A → Prop} {h : xw_A} {a0 : Nat} {x1 : Int32} {kinds_a0 : Option Nat} {starts_a0 : Nat} {ends_a0 : Option Nat} {letters_a0 : Nat} {length_a0 : Int32} {n_starts_a0 : Nat} {f_starts_a0 : Nat → Int32} {n_letters_a0 : Nat} {f_letters_a0 : Nat → Int32} (e_a0 : h a0 = some (.inr (3, [va_rf kinds_a0, .ref starts_a0, va_rf ends_a0, .ref letters_a0, .int length_a0]))) (e_starts_a0 : h starts_a0 = some (.inl (0, n_starts_a0, .inl f_starts_a0))) (i_28 : vp_in x1 n_starts_a0) (e_letters_a0 : h letters_a0 = some (.inl (1, n_letters_a0, .inl f_letters_a0))) (i_29 : vp_in (f_starts_a0 x1.toNatClampNeg) n_letters_a0) (k : xw G m_Parts_columnNamed F L bc bs pr px 35 [some (.ref a0), some (.int x1), some (.int ((f_letters_a0 (f_starts_a0 x1.toNatClampNeg).toNatClampNeg) - 97))] [.int ((f_letters_a0 (f_starts_a0 x1.toNatClampNeg).toNatClampNeg) - 97)] h) : xw G m_Parts_columnNamed F L bc bs pr px 19 [some (.ref a0), some (.int x1), none] [] h := by
  refine x_aload_n d_Parts_columnNamed_19 rfl rfl ?_
  refine x_get d_Parts_columnNamed_20 f_Parts_21 e_a0 rfl ?_
  refine x_aload_n d_Parts_columnNamed_23 rfl rfl ?_
  refine x_get d_Parts_columnNamed_24 f_Parts_15 e_a0 rfl ?_
  refine x_iload_n d_Parts_columnNamed_27 rfl rfl ?_
  refine x_iald d_Parts_columnNamed_28 e_starts_a0 i_28 ?_
  refine x_cald d_Parts_columnNamed_29 e_letters_a0 i_29 ?_
  refine x_bipush (v := 97) d_Parts_columnNamed_30 (by decide) ?_
  refine x_isub d_Parts_columnNamed_32 ?_
  refine x_istore_n d_Parts_columnNamed_33 rfl (by decide) rfl ?_
  show xw G m_Parts_columnNamed F L bc bs pr px 34 [some (.ref a0), some (.int x1), some (.int ((f_letters_a0 (f_starts_a0 x1.toNatClampNeg).toNatClampNeg) - 97))] [] h
  refine x_iload_n d_Parts_columnNamed_34 rfl rfl ?_
  exact k
theorem s_Parts_columnNamed_38 {G : xw_G} {F L bc bs : Nat} {pr : Option Value → xw_A → Prop} {px : String → xw_A → Prop} {h : xw_A} {x2 : Int32} {y0 : Int32}  (kt : y0 = 0 → xw G m_Parts_columnNamed F L bc bs pr px 45 [none, none, none] [] h) (kf : ¬ y0 = 0 → xw G m_Parts_columnNamed F L bc bs pr px 41 [none, none, some (.int x2)] [] h) : xw G m_Parts_columnNamed F L bc bs pr px 38 [none, none, some (.int x2)] [.int y0] h := by
  refine x_if_eq (tgt := 45) d_Parts_columnNamed_38 (by decide) (fun hc => ?_) (fun hc => ?_)
  · exact x_le (lv' := [none, none, none]) (xw_le_n (xw_le_n (xw_le_n xw_le_e))) (kt hc)
  · exact kf hc
theorem s_Parts_columnNamed_41 {G : xw_G} {F L bc bs : Nat} {pr : Option Value → xw_A → Prop} {px : String → xw_A → Prop} {h : xw_A} {x2 : Int32}  (k : xw G m_Parts_columnNamed F L bc bs pr px 46 [none, none, none] [.int x2] h) : xw G m_Parts_columnNamed F L bc bs pr px 41 [none, none, some (.int x2)] [] h := by
  refine x_iload_n d_Parts_columnNamed_41 rfl rfl ?_
  refine x_goto (tgt := 46) d_Parts_columnNamed_42 (by decide) ?_
  exact x_le (lv' := [none, none, none]) (xw_le_n (xw_le_n (xw_le_n xw_le_e))) (k)
theorem s_Parts_columnNamed_45 {G : xw_G} {F L bc bs : Nat} {pr : Option Value → xw_A → Prop} {px : String → xw_A → Prop} {h : xw_A}   (k : xw G m_Parts_columnNamed F L bc bs pr px 46 [none, none, none] [.int ((-1))] h) : xw G m_Parts_columnNamed F L bc bs pr px 45 [none, none, none] [] h := by
  refine x_iconst (v := -1) d_Parts_columnNamed_45 (by decide) ?_
  exact k
theorem s_Parts_columnNamed_46 {G : xw_G} {F L bc bs : Nat} {pr : Option Value → xw_A → Prop} {px : String → xw_A → Prop} {h : xw_A} {y0 : Int32}  (kr : pr (some (.int y0)) h) : xw G m_Parts_columnNamed F L bc bs pr px 46 [none, none, none] [.int y0] h := by
  exact x_iret d_Parts_columnNamed_46 rfl kr
theorem s_Parts_number_0 {G : xw_G} {F L bc bs : Nat} {pr : Option Value → xw_A → Prop} {px : String → xw_A → Prop} {h : xw_A} {a0 : Nat} {x1 : Int32} {kinds_a0 : Nat} {starts_a0 : Option Nat} {ends_a0 : Option Nat} {letters_a0 : Option Nat} {length_a0 : Int32} {n_kinds_a0 : Nat} {f_kinds_a0 : Nat → Int32} (e_a0 : h a0 = some (.inr (3, [.ref kinds_a0, va_rf starts_a0, va_rf ends_a0, va_rf letters_a0, .int length_a0]))) (e_kinds_a0 : h kinds_a0 = some (.inl (0, n_kinds_a0, .inl f_kinds_a0))) (i_5 : vp_in x1 n_kinds_a0) (kt : (f_kinds_a0 x1.toNatClampNeg) = 2 → xw G m_Parts_number F L bc bs pr px 20 [some (.ref a0), some (.int x1), none, none] [] h) (kf : ¬ (f_kinds_a0 x1.toNatClampNeg) = 2 → xw G m_Parts_number F L bc bs pr px 10 [some (.ref a0), some (.int x1), none, none] [] h) : xw G m_Parts_number F L bc bs pr px 0 [some (.ref a0), some (.int x1), none, none] [] h := by
  refine x_aload_n d_Parts_number_0 rfl rfl ?_
  refine x_get d_Parts_number_1 f_Parts_9 e_a0 rfl ?_
  refine x_iload_n d_Parts_number_4 rfl rfl ?_
  refine x_iald d_Parts_number_5 e_kinds_a0 i_5 ?_
  refine x_iconst (v := 2) d_Parts_number_6 (by decide) ?_
  refine x_icmp_eq (tgt := 20) d_Parts_number_7 (by decide) (fun hc => ?_) (fun hc => ?_)
  · exact kt hc
  · exact kf hc
theorem s_Parts_number_10 {G : xw_G} {F L bc bs : Nat} {pr : Option Value → xw_A → Prop} {px : String → xw_A → Prop} {h : xw_A} {a0 : Nat} {x1 : Int32} {kinds_a0 : Nat} {starts_a0 : Option Nat} {ends_a0 : Option Nat} {letters_a0 : Option Nat} {length_a0 : Int32} {n_kinds_a0 : Nat} {f_kinds_a0 : Nat → Int32} (e_a0 : h a0 = some (.inr (3, [.ref kinds_a0, va_rf starts_a0, va_rf ends_a0, va_rf letters_a0, .int length_a0]))) (e_kinds_a0 : h kinds_a0 = some (.inl (0, n_kinds_a0, .inl f_kinds_a0))) (i_15 : vp_in x1 n_kinds_a0) (kt : ¬ (f_kinds_a0 x1.toNatClampNeg) = 3 → xw G m_Parts_number F L bc bs pr px 37 [none, none, none, none] [] h) (kf : (f_kinds_a0 x1.toNatClampNeg) = 3 → xw G m_Parts_number F L bc bs pr px 20 [some (.ref a0), some (.int x1), none, none] [] h) : xw G m_Parts_number F L bc bs pr px 10 [some (.ref a0), some (.int x1), none, none] [] h := by
  refine x_aload_n d_Parts_number_10 rfl rfl ?_
  refine x_get d_Parts_number_11 f_Parts_9 e_a0 rfl ?_
  refine x_iload_n d_Parts_number_14 rfl rfl ?_
  refine x_iald d_Parts_number_15 e_kinds_a0 i_15 ?_
  refine x_iconst (v := 3) d_Parts_number_16 (by decide) ?_
  refine x_icmp_ne (tgt := 37) d_Parts_number_17 (by decide) (fun hc => ?_) (fun hc => ?_)
  · exact x_le (lv' := [none, none, none, none]) (xw_le_n (xw_le_n (xw_le_n (xw_le_n xw_le_e)))) (kt hc)
  · exact kf hc
theorem s_Parts_number_20 {G : xw_G} {F L bc bs : Nat} {pr : Option Value → xw_A → Prop} {px : String → xw_A → Prop} {h : xw_A} {a0 : Nat} {x1 : Int32} {kinds_a0 : Option Nat} {starts_a0 : Nat} {ends_a0 : Nat} {letters_a0 : Option Nat} {length_a0 : Int32} {n_ends_a0 : Nat} {f_ends_a0 : Nat → Int32} {n_starts_a0 : Nat} {f_starts_a0 : Nat → Int32} (e_a0 : h a0 = some (.inr (3, [va_rf kinds_a0, .ref starts_a0, .ref ends_a0, va_rf letters_a0, .int length_a0]))) (e_ends_a0 : h ends_a0 = some (.inl (0, n_ends_a0, .inl f_ends_a0))) (i_25 : vp_in x1 n_ends_a0) (e_starts_a0 : h starts_a0 = some (.inl (0, n_starts_a0, .inl f_starts_a0))) (i_31 : vp_in x1 n_starts_a0) (kt : ((f_ends_a0 x1.toNatClampNeg) - (f_starts_a0 x1.toNatClampNeg)) ≤ 2 → xw G m_Parts_number F L bc bs pr px 39 [some (.ref a0), some (.int x1), none, none] [] h) (kf : ¬ ((f_ends_a0 x1.toNatClampNeg) - (f_starts_a0 x1.toNatClampNeg)) ≤ 2 → xw G m_Parts_number F L bc bs pr px 37 [none, none, none, none] [] h) : xw G m_Parts_number F L bc bs pr px 20 [some (.ref a0), some (.int x1), none, none] [] h := by
  refine x_aload_n d_Parts_number_20 rfl rfl ?_
  refine x_get d_Parts_number_21 f_Parts_18 e_a0 rfl ?_
  refine x_iload_n d_Parts_number_24 rfl rfl ?_
  refine x_iald d_Parts_number_25 e_ends_a0 i_25 ?_
  refine x_aload_n d_Parts_number_26 rfl rfl ?_
  refine x_get d_Parts_number_27 f_Parts_15 e_a0 rfl ?_
  refine x_iload_n d_Parts_number_30 rfl rfl ?_
  refine x_iald d_Parts_number_31 e_starts_a0 i_31 ?_
  refine x_isub d_Parts_number_32 ?_
  refine x_iconst (v := 2) d_Parts_number_33 (by decide) ?_
  refine x_icmp_le (tgt := 39) d_Parts_number_34 (by decide) (fun hc => ?_) (fun hc => ?_)
  · exact kt hc
  · exact x_le (lv' := [none, none, none, none]) (xw_le_n (xw_le_n (xw_le_n (xw_le_n xw_le_e)))) (kf hc)
theorem s_Parts_number_37 {G : xw_G} {F L bc bs : Nat} {pr : Option Value → xw_A → Prop} {px : String → xw_A → Prop} {h : xw_A}   (kr : pr (some (.int ((-1)))) h) : xw G m_Parts_number F L bc bs pr px 37 [none, none, none, none] [] h := by
  refine x_iconst (v := -1) d_Parts_number_37 (by decide) ?_
  exact x_iret d_Parts_number_38 rfl kr
theorem s_Parts_number_39 {G : xw_G} {F L bc bs : Nat} {pr : Option Value → xw_A → Prop} {px : String → xw_A → Prop} {h : xw_A} {a0 : Nat} {x1 : Int32} {kinds_a0 : Option Nat} {starts_a0 : Nat} {ends_a0 : Option Nat} {letters_a0 : Option Nat} {length_a0 : Int32} {n_starts_a0 : Nat} {f_starts_a0 : Nat → Int32} (e_a0 : h a0 = some (.inr (3, [va_rf kinds_a0, .ref starts_a0, va_rf ends_a0, va_rf letters_a0, .int length_a0]))) (e_starts_a0 : h starts_a0 = some (.inl (0, n_starts_a0, .inl f_starts_a0))) (i_46 : vp_in x1 n_starts_a0) (k : xw G m_Parts_number F L bc bs pr px 48 [some (.ref a0), some (.int x1), some (.int 0), some (.int (f_starts_a0 x1.toNatClampNeg))] [] h) : xw G m_Parts_number F L bc bs pr px 39 [some (.ref a0), some (.int x1), none, none] [] h := by
  refine x_iconst (v := 0) d_Parts_number_39 (by decide) ?_
  refine x_istore_n d_Parts_number_40 rfl (by decide) rfl ?_
  show xw G m_Parts_number F L bc bs pr px 41 [some (.ref a0), some (.int x1), some (.int 0), none] [] h
  refine x_aload_n d_Parts_number_41 rfl rfl ?_
  refine x_get d_Parts_number_42 f_Parts_15 e_a0 rfl ?_
  refine x_iload_n d_Parts_number_45 rfl rfl ?_
  refine x_iald d_Parts_number_46 e_starts_a0 i_46 ?_
  refine x_istore_n d_Parts_number_47 rfl (by decide) rfl ?_
  show xw G m_Parts_number F L bc bs pr px 48 [some (.ref a0), some (.int x1), some (.int 0), some (.int (f_starts_a0 x1.toNatClampNeg))] [] h
  exact k
theorem s_Parts_number_48 {G : xw_G} {F L bc bs : Nat} {pr : Option Value → xw_A → Prop} {px : String → xw_A → Prop} {h : xw_A} {a0 : Nat} {x1 : Int32} {x2 : Int32} {x3 : Int32} {kinds_a0 : Option Nat} {starts_a0 : Option Nat} {ends_a0 : Nat} {letters_a0 : Option Nat} {length_a0 : Int32} {n_ends_a0 : Nat} {f_ends_a0 : Nat → Int32} (e_a0 : h a0 = some (.inr (3, [va_rf kinds_a0, va_rf starts_a0, .ref ends_a0, va_rf letters_a0, .int length_a0]))) (e_ends_a0 : h ends_a0 = some (.inl (0, n_ends_a0, .inl f_ends_a0))) (i_54 : vp_in x1 n_ends_a0) (kt : (f_ends_a0 x1.toNatClampNeg) ≤ x3 → xw G m_Parts_number F L bc bs pr px 92 [none, none, some (.int x2), none] [] h) (kf : ¬ (f_ends_a0 x1.toNatClampNeg) ≤ x3 → xw G m_Parts_number F L bc bs pr px 58 [some (.ref a0), some (.int x1), some (.int x2), some (.int x3)] [] h) : xw G m_Parts_number F L bc bs pr px 48 [some (.ref a0), some (.int x1), some (.int x2), some (.int x3)] [] h := by
  refine x_iload_n d_Parts_number_48 rfl rfl ?_
  refine x_aload_n d_Parts_number_49 rfl rfl ?_
  refine x_get d_Parts_number_50 f_Parts_18 e_a0 rfl ?_
  refine x_iload_n d_Parts_number_53 rfl rfl ?_
  refine x_iald d_Parts_number_54 e_ends_a0 i_54 ?_
  refine x_icmp_ge (tgt := 92) d_Parts_number_55 (by decide) (fun hc => ?_) (fun hc => ?_)
  · exact x_le (lv' := [none, none, some (.int x2), none]) (xw_le_n (xw_le_n (xw_le_s (xw_le_n xw_le_e)))) (kt hc)
  · exact kf hc
theorem s_Parts_number_58 {G : xw_G} {F L bc bs : Nat} {pr : Option Value → xw_A → Prop} {px : String → xw_A → Prop} {h : xw_A} {a0 : Nat} {x1 : Int32} {x2 : Int32} {x3 : Int32} {kinds_a0 : Option Nat} {starts_a0 : Option Nat} {ends_a0 : Option Nat} {letters_a0 : Nat} {length_a0 : Int32} {n_letters_a0 : Nat} {f_letters_a0 : Nat → Int32} (e_a0 : h a0 = some (.inr (3, [va_rf kinds_a0, va_rf starts_a0, va_rf ends_a0, .ref letters_a0, .int length_a0]))) (e_letters_a0 : h letters_a0 = some (.inl (1, n_letters_a0, .inl f_letters_a0))) (i_63 : vp_in x3 n_letters_a0) (kt : (f_letters_a0 x3.toNatClampNeg) ≤ 57 → xw G m_Parts_number F L bc bs pr px 71 [some (.ref a0), some (.int x1), some (.int x2), some (.int x3)] [] h) (kf : ¬ (f_letters_a0 x3.toNatClampNeg) ≤ 57 → xw G m_Parts_number F L bc bs pr px 69 [none, none, none, none] [] h) : xw G m_Parts_number F L bc bs pr px 58 [some (.ref a0), some (.int x1), some (.int x2), some (.int x3)] [] h := by
  refine x_aload_n d_Parts_number_58 rfl rfl ?_
  refine x_get d_Parts_number_59 f_Parts_21 e_a0 rfl ?_
  refine x_iload_n d_Parts_number_62 rfl rfl ?_
  refine x_cald d_Parts_number_63 e_letters_a0 i_63 ?_
  refine x_bipush (v := 57) d_Parts_number_64 (by decide) ?_
  refine x_icmp_le (tgt := 71) d_Parts_number_66 (by decide) (fun hc => ?_) (fun hc => ?_)
  · exact kt hc
  · exact x_le (lv' := [none, none, none, none]) (xw_le_n (xw_le_n (xw_le_n (xw_le_n xw_le_e)))) (kf hc)
theorem s_Parts_number_69 {G : xw_G} {F L bc bs : Nat} {pr : Option Value → xw_A → Prop} {px : String → xw_A → Prop} {h : xw_A}   (kr : pr (some (.int ((-1)))) h) : xw G m_Parts_number F L bc bs pr px 69 [none, none, none, none] [] h := by
  refine x_iconst (v := -1) d_Parts_number_69 (by decide) ?_
  exact x_iret d_Parts_number_70 rfl kr
theorem s_Parts_number_71 {G : xw_G} {F L bc bs : Nat} {pr : Option Value → xw_A → Prop} {px : String → xw_A → Prop} {h : xw_A} {a0 : Nat} {x1 : Int32} {x2 : Int32} {x3 : Int32} {kinds_a0 : Option Nat} {starts_a0 : Option Nat} {ends_a0 : Option Nat} {letters_a0 : Nat} {length_a0 : Int32} {n_letters_a0 : Nat} {f_letters_a0 : Nat → Int32} (e_a0 : h a0 = some (.inr (3, [va_rf kinds_a0, va_rf starts_a0, va_rf ends_a0, .ref letters_a0, .int length_a0]))) (e_letters_a0 : h letters_a0 = some (.inl (1, n_letters_a0, .inl f_letters_a0))) (i_80 : vp_in x3 n_letters_a0) (k : xw G m_Parts_number F L bc bs pr px 48 [some (.ref a0), some (.int x1), some (.int (((x2 * 10) + (f_letters_a0 x3.toNatClampNeg)) - 48)), some (.int (x3 + 1))] [] h) : xw G m_Parts_number F L bc bs pr px 71 [some (.ref a0), some (.int x1), some (.int x2), some (.int x3)] [] h := by
  refine x_iload_n d_Parts_number_71 rfl rfl ?_
  refine x_bipush (v := 10) d_Parts_number_72 (by decide) ?_
  refine x_imul d_Parts_number_74 ?_
  refine x_aload_n d_Parts_number_75 rfl rfl ?_
  refine x_get d_Parts_number_76 f_Parts_21 e_a0 rfl ?_
  refine x_iload_n d_Parts_number_79 rfl rfl ?_
  refine x_cald d_Parts_number_80 e_letters_a0 i_80 ?_
  refine x_iadd d_Parts_number_81 ?_
  refine x_bipush (v := 48) d_Parts_number_82 (by decide) ?_
  refine x_isub d_Parts_number_84 ?_
  refine x_istore_n d_Parts_number_85 rfl (by decide) rfl ?_
  show xw G m_Parts_number F L bc bs pr px 86 [some (.ref a0), some (.int x1), some (.int (((x2 * 10) + (f_letters_a0 x3.toNatClampNeg)) - 48)), some (.int x3)] [] h
  refine x_iinc (v := x3 + 1) d_Parts_number_86 rfl (by rfl) (by decide) rfl ?_
  show xw G m_Parts_number F L bc bs pr px 89 [some (.ref a0), some (.int x1), some (.int (((x2 * 10) + (f_letters_a0 x3.toNatClampNeg)) - 48)), some (.int (x3 + 1))] [] h
  refine x_goto (tgt := 48) d_Parts_number_89 (by decide) ?_
  exact k
theorem s_Parts_number_92 {G : xw_G} {F L bc bs : Nat} {pr : Option Value → xw_A → Prop} {px : String → xw_A → Prop} {h : xw_A} {x2 : Int32}  (kr : pr (some (.int x2)) h) : xw G m_Parts_number F L bc bs pr px 92 [none, none, some (.int x2), none] [] h := by
  refine x_iload_n d_Parts_number_92 rfl rfl ?_
  exact x_iret d_Parts_number_93 rfl kr
