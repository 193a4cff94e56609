/-! blocks of Model: by program -/
theorem s_Model_init_0 {G : xw_G} {F L bc bs : Nat} {pr : Option Value → xw_A → Prop} {px : String → xw_A → Prop} {h : xw_A} {a0 : Nat} {fs_a0 : List Value} (r_1 : 1 ≤ F ∧ 0 + 12 ≤ L) (l_a0 : fs_a0.length = 62) (e_a0 : h a0 = some (.inr (11, fs_a0))) (u_18 : 1 ≤ bc ∧ 96 ≤ bs) (k : ∀ q18 : Nat, (xw_up (xw_up h a0 (.inr (11, (fs_a0.set 1 (.int 3))))) a0 (.inr (11, ((fs_a0.set 1 (.int 3)).set 2 (.int 20))))) q18 = none → xw G m_Model_init F L (bc - 1) (bs - 96) pr px 23 [some (.ref a0), none] [] (xw_up (xw_up (xw_up (xw_up h a0 (.inr (11, (fs_a0.set 1 (.int 3))))) a0 (.inr (11, ((fs_a0.set 1 (.int 3)).set 2 (.int 20))))) q18 (.inl (0, 96, .inl ((fun _ => 0))))) a0 (.inr (11, (((fs_a0.set 1 (.int 3)).set 2 (.int 20)).set 3 (.ref q18)))))) : xw G m_Model_init F L bc bs pr px 0 [some (.ref a0), none] [] h := by
  refine x_aload_n d_Model_init_0 rfl rfl ?_
  refine x_objInit d_Model_init_1 oi_Model r_1.1 (by simpa [Value.category] using r_1.2) ?_
  refine x_aload_n d_Model_init_4 rfl rfl ?_
  refine x_iconst (v := 3) d_Model_init_5 (by decide) ?_
  refine x_put (ty := .int) d_Model_init_6 f_Model_7 fw_Model_1.1 fw_Model_1.2 rfl rfl (by simp [l_a0]) e_a0 ?_
  show xw G m_Model_init F L bc bs pr px 9 [some (.ref a0), none] [] (xw_up h a0 (.inr (11, (fs_a0.set 1 (.int 3)))))
  refine x_aload_n d_Model_init_9 rfl rfl ?_
  refine x_bipush (v := 20) d_Model_init_10 (by decide) ?_
  refine x_put (ty := .int) d_Model_init_12 f_Model_13 fw_Model_2.1 fw_Model_2.2 rfl rfl (by simp [l_a0]) (xw_up_s _ _ _) ?_
  show xw G m_Model_init F L bc bs pr px 15 [some (.ref a0), none] [] (xw_up (xw_up h a0 (.inr (11, (fs_a0.set 1 (.int 3))))) a0 (.inr (11, ((fs_a0.set 1 (.int 3)).set 2 (.int 20)))))
  refine x_aload_n d_Model_init_15 rfl rfl ?_
  refine x_bipush (v := 96) d_Model_init_16 (by decide) ?_
  refine x_inew (N := 96) d_Model_init_18 (by decide +kernel) (by decide) (by decide) (by decide) u_18 (fun q18 hq18 => ?_)
  show xw G m_Model_init F L (bc - 1) (bs - 96) pr px 20 [some (.ref a0), none] [.ref q18, .ref a0] (xw_up (xw_up (xw_up h a0 (.inr (11, (fs_a0.set 1 (.int 3))))) a0 (.inr (11, ((fs_a0.set 1 (.int 3)).set 2 (.int 20))))) q18 (.inl (0, 96, .inl ((fun _ => 0)))))
  refine x_putF (ty := (.array .int)) d_Model_init_20 f_Model_16 fw_Model_3.1 rfl rfl fw_Model_3.2 rfl rfl (by simp [l_a0]) ((xw_up_n _ _ (xw_neN (xw_up_s _ _ _) hq18)).trans (xw_up_s _ _ _)) ?_
  show xw G m_Model_init F L (bc - 1) (bs - 96) pr px 23 [some (.ref a0), none] [] (xw_up (xw_up (xw_up (xw_up h a0 (.inr (11, (fs_a0.set 1 (.int 3))))) a0 (.inr (11, ((fs_a0.set 1 (.int 3)).set 2 (.int 20))))) q18 (.inl (0, 96, .inl ((fun _ => 0))))) a0 (.inr (11, (((fs_a0.set 1 (.int 3)).set 2 (.int 20)).set 3 (.ref q18)))))
  exact (k q18 hq18)
theorem s_Model_init_23 {G : xw_G} {F L bc bs : Nat} {pr : Option Value → xw_A → Prop} {px : String → xw_A → Prop} {h : xw_A} {a0 : Nat} {fs_a0 : List Value} (u_26 : 1 ≤ bc ∧ 96 ≤ bs) (l_a0 : fs_a0.length = 62) (e_a0 : h a0 = some (.inr (11, fs_a0))) (u_34 : 1 ≤ (bc - 1) ∧ 96 ≤ (bs - 96)) (k : ∀ q26 : Nat, h q26 = none → ∀ q34 : Nat, (xw_up (xw_up h q26 (.inl (0, 96, .inl ((fun _ => 0))))) a0 (.inr (11, (fs_a0.set 4 (.ref q26))))) q34 = none → xw G m_Model_init F L ((bc - 1) - 1) ((bs - 96) - 96) pr px 39 [some (.ref a0), none] [] (xw_up (xw_up (xw_up (xw_up h q26 (.inl (0, 96, .inl ((fun _ => 0))))) a0 (.inr (11, (fs_a0.set 4 (.ref q26))))) q34 (.inl (0, 96, .inl ((fun _ => 0))))) a0 (.inr (11, ((fs_a0.set 4 (.ref q26)).set 5 (.ref q34)))))) : xw G m_Model_init F L bc bs pr px 23 [some (.ref a0), none] [] h := by
  refine x_aload_n d_Model_init_23 rfl rfl ?_
  refine x_bipush (v := 96) d_Model_init_24 (by decide) ?_
  refine x_inew (N := 96) d_Model_init_26 (by decide +kernel) (by decide) (by decide) (by decide) u_26 (fun q26 hq26 => ?_)
  show xw G m_Model_init F L (bc - 1) (bs - 96) pr px 28 [some (.ref a0), none] [.ref q26, .ref a0] (xw_up h q26 (.inl (0, 96, .inl ((fun _ => 0)))))
  refine x_putF (ty := (.array .int)) d_Model_init_28 f_Model_20 fw_Model_4.1 rfl rfl fw_Model_4.2 rfl rfl (by simp [l_a0]) ((xw_up_n _ _ (xw_neN e_a0 hq26)).trans e_a0) ?_
  show xw G m_Model_init F L (bc - 1) (bs - 96) pr px 31 [some (.ref a0), none] [] (xw_up (xw_up h q26 (.inl (0, 96, .inl ((fun _ => 0))))) a0 (.inr (11, (fs_a0.set 4 (.ref q26)))))
  refine x_aload_n d_Model_init_31 rfl rfl ?_
  refine x_bipush (v := 96) d_Model_init_32 (by decide) ?_
  refine x_inew (N := 96) d_Model_init_34 (by decide +kernel) (by decide) (by decide) (by decide) u_34 (fun q34 hq34 => ?_)
  show xw G m_Model_init F L ((bc - 1) - 1) ((bs - 96) - 96) pr px 36 [some (.ref a0), none] [.ref q34, .ref a0] (xw_up (xw_up (xw_up h q26 (.inl (0, 96, .inl ((fun _ => 0))))) a0 (.inr (11, (fs_a0.set 4 (.ref q26))))) q34 (.inl (0, 96, .inl ((fun _ => 0)))))
  refine x_putF (ty := (.array .int)) d_Model_init_36 f_Model_23 fw_Model_5.1 rfl rfl fw_Model_5.2 rfl rfl (by simp [l_a0]) ((xw_up_n _ _ (xw_neN (xw_up_s _ _ _) hq34)).trans (xw_up_s _ _ _)) ?_
  show xw G m_Model_init F L ((bc - 1) - 1) ((bs - 96) - 96) pr px 39 [some (.ref a0), none] [] (xw_up (xw_up (xw_up (xw_up h q26 (.inl (0, 96, .inl ((fun _ => 0))))) a0 (.inr (11, (fs_a0.set 4 (.ref q26))))) q34 (.inl (0, 96, .inl ((fun _ => 0))))) a0 (.inr (11, ((fs_a0.set 4 (.ref q26)).set 5 (.ref q34)))))
  exact (k q26 hq26 q34 hq34)
theorem s_Model_init_39 {G : xw_G} {F L bc bs : Nat} {pr : Option Value → xw_A → Prop} {px : String → xw_A → Prop} {h : xw_A} {a0 : Nat} {fs_a0 : List Value} (u_41 : 1 ≤ bc ∧ 2 ≤ bs) (l_a0 : fs_a0.length = 62) (e_a0 : h a0 = some (.inr (11, fs_a0))) (u_50 : 1 ≤ (bc - 1) ∧ 2304 ≤ (bs - 2)) (k : ∀ q41 : Nat, h q41 = none → ∀ q50 : Nat, (xw_up (xw_up h q41 (.inl (0, 2, .inl ((fun _ => 0))))) a0 (.inr (11, (fs_a0.set 6 (.ref q41))))) q50 = none → xw G m_Model_init F L ((bc - 1) - 1) ((bs - 2) - 2304) pr px 55 [some (.ref a0), none] [] (xw_up (xw_up (xw_up (xw_up h q41 (.inl (0, 2, .inl ((fun _ => 0))))) a0 (.inr (11, (fs_a0.set 6 (.ref q41))))) q50 (.inl (0, 2304, .inl ((fun _ => 0))))) a0 (.inr (11, ((fs_a0.set 6 (.ref q41)).set 7 (.ref q50)))))) : xw G m_Model_init F L bc bs pr px 39 [some (.ref a0), none] [] h := by
  refine x_aload_n d_Model_init_39 rfl rfl ?_
  refine x_iconst (v := 2) d_Model_init_40 (by decide) ?_
  refine x_inew (N := 2) d_Model_init_41 (by decide +kernel) (by decide) (by decide) (by decide) u_41 (fun q41 hq41 => ?_)
  show xw G m_Model_init F L (bc - 1) (bs - 2) pr px 43 [some (.ref a0), none] [.ref q41, .ref a0] (xw_up h q41 (.inl (0, 2, .inl ((fun _ => 0)))))
  refine x_putF (ty := (.array .int)) d_Model_init_43 f_Model_26 fw_Model_6.1 rfl rfl fw_Model_6.2 rfl rfl (by simp [l_a0]) ((xw_up_n _ _ (xw_neN e_a0 hq41)).trans e_a0) ?_
  show xw G m_Model_init F L (bc - 1) (bs - 2) pr px 46 [some (.ref a0), none] [] (xw_up (xw_up h q41 (.inl (0, 2, .inl ((fun _ => 0))))) a0 (.inr (11, (fs_a0.set 6 (.ref q41)))))
  refine x_aload_n d_Model_init_46 rfl rfl ?_
  refine x_sipush (v := 2304) d_Model_init_47 (by decide) ?_
  refine x_inew (N := 2304) d_Model_init_50 (by decide +kernel) (by decide) (by decide) (by decide) u_50 (fun q50 hq50 => ?_)
  show xw G m_Model_init F L ((bc - 1) - 1) ((bs - 2) - 2304) pr px 52 [some (.ref a0), none] [.ref q50, .ref a0] (xw_up (xw_up (xw_up h q41 (.inl (0, 2, .inl ((fun _ => 0))))) a0 (.inr (11, (fs_a0.set 6 (.ref q41))))) q50 (.inl (0, 2304, .inl ((fun _ => 0)))))
  refine x_putF (ty := (.array .int)) d_Model_init_52 f_Model_29 fw_Model_7.1 rfl rfl fw_Model_7.2 rfl rfl (by simp [l_a0]) ((xw_up_n _ _ (xw_neN (xw_up_s _ _ _) hq50)).trans (xw_up_s _ _ _)) ?_
  show xw G m_Model_init F L ((bc - 1) - 1) ((bs - 2) - 2304) pr px 55 [some (.ref a0), none] [] (xw_up (xw_up (xw_up (xw_up h q41 (.inl (0, 2, .inl ((fun _ => 0))))) a0 (.inr (11, (fs_a0.set 6 (.ref q41))))) q50 (.inl (0, 2304, .inl ((fun _ => 0))))) a0 (.inr (11, ((fs_a0.set 6 (.ref q41)).set 7 (.ref q50)))))
  exact (k q41 hq41 q50 hq50)
theorem s_Model_init_55 {G : xw_G} {F L bc bs : Nat} {pr : Option Value → xw_A → Prop} {px : String → xw_A → Prop} {h : xw_A} {a0 : Nat} {fs_a0 : List Value} (u_58 : 1 ≤ bc ∧ 48 ≤ bs) (l_a0 : fs_a0.length = 62) (e_a0 : h a0 = some (.inr (11, fs_a0))) (u_65 : 1 ≤ (bc - 1) ∧ 2 ≤ (bs - 48)) (k : ∀ q58 : Nat, h q58 = none → ∀ q65 : Nat, (xw_up (xw_up h q58 (.inl (0, 48, .inl ((fun _ => 0))))) a0 (.inr (11, (fs_a0.set 8 (.ref q58))))) q65 = none → xw G m_Model_init F L ((bc - 1) - 1) ((bs - 48) - 2) pr px 70 [some (.ref a0), none] [] (xw_up (xw_up (xw_up (xw_up h q58 (.inl (0, 48, .inl ((fun _ => 0))))) a0 (.inr (11, (fs_a0.set 8 (.ref q58))))) q65 (.inl (0, 2, .inl ((fun _ => 0))))) a0 (.inr (11, ((fs_a0.set 8 (.ref q58)).set 9 (.ref q65)))))) : xw G m_Model_init F L bc bs pr px 55 [some (.ref a0), none] [] h := by
  refine x_aload_n d_Model_init_55 rfl rfl ?_
  refine x_bipush (v := 48) d_Model_init_56 (by decide) ?_
  refine x_inew (N := 48) d_Model_init_58 (by decide +kernel) (by decide) (by decide) (by decide) u_58 (fun q58 hq58 => ?_)
  show xw G m_Model_init F L (bc - 1) (bs - 48) pr px 60 [some (.ref a0), none] [.ref q58, .ref a0] (xw_up h q58 (.inl (0, 48, .inl ((fun _ => 0)))))
  refine x_putF (ty := (.array .int)) d_Model_init_60 f_Model_32 fw_Model_8.1 rfl rfl fw_Model_8.2 rfl rfl (by simp [l_a0]) ((xw_up_n _ _ (xw_neN e_a0 hq58)).trans e_a0) ?_
  show xw G m_Model_init F L (bc - 1) (bs - 48) pr px 63 [some (.ref a0), none] [] (xw_up (xw_up h q58 (.inl (0, 48, .inl ((fun _ => 0))))) a0 (.inr (11, (fs_a0.set 8 (.ref q58)))))
  refine x_aload_n d_Model_init_63 rfl rfl ?_
  refine x_iconst (v := 2) d_Model_init_64 (by decide) ?_
  refine x_inew (N := 2) d_Model_init_65 (by decide +kernel) (by decide) (by decide) (by decide) u_65 (fun q65 hq65 => ?_)
  show xw G m_Model_init F L ((bc - 1) - 1) ((bs - 48) - 2) pr px 67 [some (.ref a0), none] [.ref q65, .ref a0] (xw_up (xw_up (xw_up h q58 (.inl (0, 48, .inl ((fun _ => 0))))) a0 (.inr (11, (fs_a0.set 8 (.ref q58))))) q65 (.inl (0, 2, .inl ((fun _ => 0)))))
  refine x_putF (ty := (.array .int)) d_Model_init_67 f_Model_35 fw_Model_9.1 rfl rfl fw_Model_9.2 rfl rfl (by simp [l_a0]) ((xw_up_n _ _ (xw_neN (xw_up_s _ _ _) hq65)).trans (xw_up_s _ _ _)) ?_
  show xw G m_Model_init F L ((bc - 1) - 1) ((bs - 48) - 2) pr px 70 [some (.ref a0), none] [] (xw_up (xw_up (xw_up (xw_up h q58 (.inl (0, 48, .inl ((fun _ => 0))))) a0 (.inr (11, (fs_a0.set 8 (.ref q58))))) q65 (.inl (0, 2, .inl ((fun _ => 0))))) a0 (.inr (11, ((fs_a0.set 8 (.ref q58)).set 9 (.ref q65)))))
  exact (k q58 hq58 q65 hq65)
theorem s_Model_init_70 {G : xw_G} {F L bc bs : Nat} {pr : Option Value → xw_A → Prop} {px : String → xw_A → Prop} {h : xw_A} {a0 : Nat} {fs_a0 : List Value} (u_74 : 1 ≤ bc ∧ 600 ≤ bs) (l_a0 : fs_a0.length = 62) (e_a0 : h a0 = some (.inr (11, fs_a0))) (u_83 : 1 ≤ (bc - 1) ∧ 600 ≤ (bs - 600)) (k : ∀ q74 : Nat, h q74 = none → ∀ q83 : Nat, (xw_up (xw_up h q74 (.inl (0, 600, .inl ((fun _ => 0))))) a0 (.inr (11, (fs_a0.set 12 (.ref q74))))) q83 = none → xw G m_Model_init F L ((bc - 1) - 1) ((bs - 600) - 600) pr px 88 [some (.ref a0), none] [] (xw_up (xw_up (xw_up (xw_up h q74 (.inl (0, 600, .inl ((fun _ => 0))))) a0 (.inr (11, (fs_a0.set 12 (.ref q74))))) q83 (.inl (0, 600, .inl ((fun _ => 0))))) a0 (.inr (11, ((fs_a0.set 12 (.ref q74)).set 13 (.ref q83)))))) : xw G m_Model_init F L bc bs pr px 70 [some (.ref a0), none] [] h := by
  refine x_aload_n d_Model_init_70 rfl rfl ?_
  refine x_sipush (v := 600) d_Model_init_71 (by decide) ?_
  refine x_inew (N := 600) d_Model_init_74 (by decide +kernel) (by decide) (by decide) (by decide) u_74 (fun q74 hq74 => ?_)
  show xw G m_Model_init F L (bc - 1) (bs - 600) pr px 76 [some (.ref a0), none] [.ref q74, .ref a0] (xw_up h q74 (.inl (0, 600, .inl ((fun _ => 0)))))
  refine x_putF (ty := (.array .int)) d_Model_init_76 f_Model_38 fw_Model_12.1 rfl rfl fw_Model_12.2 rfl rfl (by simp [l_a0]) ((xw_up_n _ _ (xw_neN e_a0 hq74)).trans e_a0) ?_
  show xw G m_Model_init F L (bc - 1) (bs - 600) pr px 79 [some (.ref a0), none] [] (xw_up (xw_up h q74 (.inl (0, 600, .inl ((fun _ => 0))))) a0 (.inr (11, (fs_a0.set 12 (.ref q74)))))
  refine x_aload_n d_Model_init_79 rfl rfl ?_
  refine x_sipush (v := 600) d_Model_init_80 (by decide) ?_
  refine x_inew (N := 600) d_Model_init_83 (by decide +kernel) (by decide) (by decide) (by decide) u_83 (fun q83 hq83 => ?_)
  show xw G m_Model_init F L ((bc - 1) - 1) ((bs - 600) - 600) pr px 85 [some (.ref a0), none] [.ref q83, .ref a0] (xw_up (xw_up (xw_up h q74 (.inl (0, 600, .inl ((fun _ => 0))))) a0 (.inr (11, (fs_a0.set 12 (.ref q74))))) q83 (.inl (0, 600, .inl ((fun _ => 0)))))
  refine x_putF (ty := (.array .int)) d_Model_init_85 f_Model_41 fw_Model_13.1 rfl rfl fw_Model_13.2 rfl rfl (by simp [l_a0]) ((xw_up_n _ _ (xw_neN (xw_up_s _ _ _) hq83)).trans (xw_up_s _ _ _)) ?_
  show xw G m_Model_init F L ((bc - 1) - 1) ((bs - 600) - 600) pr px 88 [some (.ref a0), none] [] (xw_up (xw_up (xw_up (xw_up h q74 (.inl (0, 600, .inl ((fun _ => 0))))) a0 (.inr (11, (fs_a0.set 12 (.ref q74))))) q83 (.inl (0, 600, .inl ((fun _ => 0))))) a0 (.inr (11, ((fs_a0.set 12 (.ref q74)).set 13 (.ref q83)))))
  exact (k q74 hq74 q83 hq83)
theorem s_Model_init_88 {G : xw_G} {F L bc bs : Nat} {pr : Option Value → xw_A → Prop} {px : String → xw_A → Prop} {h : xw_A} {a0 : Nat} {fs_a0 : List Value} (u_91 : 1 ≤ bc ∧ 24 ≤ bs) (l_a0 : fs_a0.length = 62) (e_a0 : h a0 = some (.inr (11, fs_a0))) (u_100 : 1 ≤ (bc - 1) ∧ 600 ≤ (bs - 24)) (k : ∀ q91 : Nat, h q91 = none → ∀ q100 : Nat, (xw_up (xw_up h q91 (.inl (0, 24, .inl ((fun _ => 0))))) a0 (.inr (11, (fs_a0.set 14 (.ref q91))))) q100 = none → xw G m_Model_init F L ((bc - 1) - 1) ((bs - 24) - 600) pr px 105 [some (.ref a0), none] [] (xw_up (xw_up (xw_up (xw_up h q91 (.inl (0, 24, .inl ((fun _ => 0))))) a0 (.inr (11, (fs_a0.set 14 (.ref q91))))) q100 (.inl (0, 600, .inl ((fun _ => 0))))) a0 (.inr (11, ((fs_a0.set 14 (.ref q91)).set 17 (.ref q100)))))) : xw G m_Model_init F L bc bs pr px 88 [some (.ref a0), none] [] h := by
  refine x_aload_n d_Model_init_88 rfl rfl ?_
  refine x_bipush (v := 24) d_Model_init_89 (by decide) ?_
  refine x_inew (N := 24) d_Model_init_91 (by decide +kernel) (by decide) (by decide) (by decide) u_91 (fun q91 hq91 => ?_)
  show xw G m_Model_init F L (bc - 1) (bs - 24) pr px 93 [some (.ref a0), none] [.ref q91, .ref a0] (xw_up h q91 (.inl (0, 24, .inl ((fun _ => 0)))))
  refine x_putF (ty := (.array .int)) d_Model_init_93 f_Model_44 fw_Model_14.1 rfl rfl fw_Model_14.2 rfl rfl (by simp [l_a0]) ((xw_up_n _ _ (xw_neN e_a0 hq91)).trans e_a0) ?_
  show xw G m_Model_init F L (bc - 1) (bs - 24) pr px 96 [some (.ref a0), none] [] (xw_up (xw_up h q91 (.inl (0, 24, .inl ((fun _ => 0))))) a0 (.inr (11, (fs_a0.set 14 (.ref q91)))))
  refine x_aload_n d_Model_init_96 rfl rfl ?_
  refine x_sipush (v := 600) d_Model_init_97 (by decide) ?_
  refine x_inew (N := 600) d_Model_init_100 (by decide +kernel) (by decide) (by decide) (by decide) u_100 (fun q100 hq100 => ?_)
  show xw G m_Model_init F L ((bc - 1) - 1) ((bs - 24) - 600) pr px 102 [some (.ref a0), none] [.ref q100, .ref a0] (xw_up (xw_up (xw_up h q91 (.inl (0, 24, .inl ((fun _ => 0))))) a0 (.inr (11, (fs_a0.set 14 (.ref q91))))) q100 (.inl (0, 600, .inl ((fun _ => 0)))))
  refine x_putF (ty := (.array .int)) d_Model_init_102 f_Model_47 fw_Model_17.1 rfl rfl fw_Model_17.2 rfl rfl (by simp [l_a0]) ((xw_up_n _ _ (xw_neN (xw_up_s _ _ _) hq100)).trans (xw_up_s _ _ _)) ?_
  show xw G m_Model_init F L ((bc - 1) - 1) ((bs - 24) - 600) pr px 105 [some (.ref a0), none] [] (xw_up (xw_up (xw_up (xw_up h q91 (.inl (0, 24, .inl ((fun _ => 0))))) a0 (.inr (11, (fs_a0.set 14 (.ref q91))))) q100 (.inl (0, 600, .inl ((fun _ => 0))))) a0 (.inr (11, ((fs_a0.set 14 (.ref q91)).set 17 (.ref q100)))))
  exact (k q91 hq91 q100 hq100)
theorem s_Model_init_105 {G : xw_G} {F L bc bs : Nat} {pr : Option Value → xw_A → Prop} {px : String → xw_A → Prop} {h : xw_A} {a0 : Nat} {fs_a0 : List Value} (u_109 : 1 ≤ bc ∧ 1300 ≤ bs) (l_a0 : fs_a0.length = 62) (e_a0 : h a0 = some (.inr (11, fs_a0))) (u_118 : 1 ≤ (bc - 1) ∧ 2304 ≤ (bs - 1300)) (k : ∀ q109 : Nat, h q109 = none → ∀ q118 : Nat, (xw_up (xw_up h q109 (.inl (0, 1300, .inl ((fun _ => 0))))) a0 (.inr (11, (fs_a0.set 18 (.ref q109))))) q118 = none → xw G m_Model_init F L ((bc - 1) - 1) ((bs - 1300) - 2304) pr px 123 [some (.ref a0), none] [] (xw_up (xw_up (xw_up (xw_up h q109 (.inl (0, 1300, .inl ((fun _ => 0))))) a0 (.inr (11, (fs_a0.set 18 (.ref q109))))) q118 (.inl (0, 2304, .inl ((fun _ => 0))))) a0 (.inr (11, ((fs_a0.set 18 (.ref q109)).set 21 (.ref q118)))))) : xw G m_Model_init F L bc bs pr px 105 [some (.ref a0), none] [] h := by
  refine x_aload_n d_Model_init_105 rfl rfl ?_
  refine x_sipush (v := 1300) d_Model_init_106 (by decide) ?_
  refine x_inew (N := 1300) d_Model_init_109 (by decide +kernel) (by decide) (by decide) (by decide) u_109 (fun q109 hq109 => ?_)
  show xw G m_Model_init F L (bc - 1) (bs - 1300) pr px 111 [some (.ref a0), none] [.ref q109, .ref a0] (xw_up h q109 (.inl (0, 1300, .inl ((fun _ => 0)))))
  refine x_putF (ty := (.array .int)) d_Model_init_111 f_Model_50 fw_Model_18.1 rfl rfl fw_Model_18.2 rfl rfl (by simp [l_a0]) ((xw_up_n _ _ (xw_neN e_a0 hq109)).trans e_a0) ?_
  show xw G m_Model_init F L (bc - 1) (bs - 1300) pr px 114 [some (.ref a0), none] [] (xw_up (xw_up h q109 (.inl (0, 1300, .inl ((fun _ => 0))))) a0 (.inr (11, (fs_a0.set 18 (.ref q109)))))
  refine x_aload_n d_Model_init_114 rfl rfl ?_
  refine x_sipush (v := 2304) d_Model_init_115 (by decide) ?_
  refine x_inew (N := 2304) d_Model_init_118 (by decide +kernel) (by decide) (by decide) (by decide) u_118 (fun q118 hq118 => ?_)
  show xw G m_Model_init F L ((bc - 1) - 1) ((bs - 1300) - 2304) pr px 120 [some (.ref a0), none] [.ref q118, .ref a0] (xw_up (xw_up (xw_up h q109 (.inl (0, 1300, .inl ((fun _ => 0))))) a0 (.inr (11, (fs_a0.set 18 (.ref q109))))) q118 (.inl (0, 2304, .inl ((fun _ => 0)))))
  refine x_putF (ty := (.array .int)) d_Model_init_120 f_Model_53 fw_Model_21.1 rfl rfl fw_Model_21.2 rfl rfl (by simp [l_a0]) ((xw_up_n _ _ (xw_neN (xw_up_s _ _ _) hq118)).trans (xw_up_s _ _ _)) ?_
  show xw G m_Model_init F L ((bc - 1) - 1) ((bs - 1300) - 2304) pr px 123 [some (.ref a0), none] [] (xw_up (xw_up (xw_up (xw_up h q109 (.inl (0, 1300, .inl ((fun _ => 0))))) a0 (.inr (11, (fs_a0.set 18 (.ref q109))))) q118 (.inl (0, 2304, .inl ((fun _ => 0))))) a0 (.inr (11, ((fs_a0.set 18 (.ref q109)).set 21 (.ref q118)))))
  exact (k q109 hq109 q118 hq118)
theorem s_Model_init_123 {G : xw_G} {F L bc bs : Nat} {pr : Option Value → xw_A → Prop} {px : String → xw_A → Prop} {h : xw_A} {a0 : Nat} {fs_a0 : List Value} (u_126 : 1 ≤ bc ∧ 48 ≤ bs) (l_a0 : fs_a0.length = 62) (e_a0 : h a0 = some (.inr (11, fs_a0))) (u_135 : 1 ≤ (bc - 1) ∧ 600 ≤ (bs - 48)) (k : ∀ q126 : Nat, h q126 = none → ∀ q135 : Nat, (xw_up (xw_up h q126 (.inl (0, 48, .inl ((fun _ => 0))))) a0 (.inr (11, (fs_a0.set 22 (.ref q126))))) q135 = none → xw G m_Model_init F L ((bc - 1) - 1) ((bs - 48) - 600) pr px 140 [some (.ref a0), none] [] (xw_up (xw_up (xw_up (xw_up h q126 (.inl (0, 48, .inl ((fun _ => 0))))) a0 (.inr (11, (fs_a0.set 22 (.ref q126))))) q135 (.inl (0, 600, .inl ((fun _ => 0))))) a0 (.inr (11, ((fs_a0.set 22 (.ref q126)).set 23 (.ref q135)))))) : xw G m_Model_init F L bc bs pr px 123 [some (.ref a0), none] [] h := by
  refine x_aload_n d_Model_init_123 rfl rfl ?_
  refine x_bipush (v := 48) d_Model_init_124 (by decide) ?_
  refine x_inew (N := 48) d_Model_init_126 (by decide +kernel) (by decide) (by decide) (by decide) u_126 (fun q126 hq126 => ?_)
  show xw G m_Model_init F L (bc - 1) (bs - 48) pr px 128 [some (.ref a0), none] [.ref q126, .ref a0] (xw_up h q126 (.inl (0, 48, .inl ((fun _ => 0)))))
  refine x_putF (ty := (.array .int)) d_Model_init_128 f_Model_56 fw_Model_22.1 rfl rfl fw_Model_22.2 rfl rfl (by simp [l_a0]) ((xw_up_n _ _ (xw_neN e_a0 hq126)).trans e_a0) ?_
  show xw G m_Model_init F L (bc - 1) (bs - 48) pr px 131 [some (.ref a0), none] [] (xw_up (xw_up h q126 (.inl (0, 48, .inl ((fun _ => 0))))) a0 (.inr (11, (fs_a0.set 22 (.ref q126)))))
  refine x_aload_n d_Model_init_131 rfl rfl ?_
  refine x_sipush (v := 600) d_Model_init_132 (by decide) ?_
  refine x_inew (N := 600) d_Model_init_135 (by decide +kernel) (by decide) (by decide) (by decide) u_135 (fun q135 hq135 => ?_)
  show xw G m_Model_init F L ((bc - 1) - 1) ((bs - 48) - 600) pr px 137 [some (.ref a0), none] [.ref q135, .ref a0] (xw_up (xw_up (xw_up h q126 (.inl (0, 48, .inl ((fun _ => 0))))) a0 (.inr (11, (fs_a0.set 22 (.ref q126))))) q135 (.inl (0, 600, .inl ((fun _ => 0)))))
  refine x_putF (ty := (.array .int)) d_Model_init_137 f_Model_59 fw_Model_23.1 rfl rfl fw_Model_23.2 rfl rfl (by simp [l_a0]) ((xw_up_n _ _ (xw_neN (xw_up_s _ _ _) hq135)).trans (xw_up_s _ _ _)) ?_
  show xw G m_Model_init F L ((bc - 1) - 1) ((bs - 48) - 600) pr px 140 [some (.ref a0), none] [] (xw_up (xw_up (xw_up (xw_up h q126 (.inl (0, 48, .inl ((fun _ => 0))))) a0 (.inr (11, (fs_a0.set 22 (.ref q126))))) q135 (.inl (0, 600, .inl ((fun _ => 0))))) a0 (.inr (11, ((fs_a0.set 22 (.ref q126)).set 23 (.ref q135)))))
  exact (k q126 hq126 q135 hq135)
theorem s_Model_init_140 {G : xw_G} {F L bc bs : Nat} {pr : Option Value → xw_A → Prop} {px : String → xw_A → Prop} {h : xw_A} {a0 : Nat} {fs_a0 : List Value} (u_143 : 1 ≤ bc ∧ 24 ≤ bs) (l_a0 : fs_a0.length = 62) (e_a0 : h a0 = some (.inr (11, fs_a0))) (u_152 : 1 ≤ (bc - 1) ∧ 600 ≤ (bs - 24)) (k : ∀ q143 : Nat, h q143 = none → ∀ q152 : Nat, (xw_up (xw_up h q143 (.inl (0, 24, .inl ((fun _ => 0))))) a0 (.inr (11, (fs_a0.set 24 (.ref q143))))) q152 = none → xw G m_Model_init F L ((bc - 1) - 1) ((bs - 24) - 600) pr px 157 [some (.ref a0), none] [] (xw_up (xw_up (xw_up (xw_up h q143 (.inl (0, 24, .inl ((fun _ => 0))))) a0 (.inr (11, (fs_a0.set 24 (.ref q143))))) q152 (.inl (0, 600, .inl ((fun _ => 0))))) a0 (.inr (11, ((fs_a0.set 24 (.ref q143)).set 25 (.ref q152)))))) : xw G m_Model_init F L bc bs pr px 140 [some (.ref a0), none] [] h := by
  refine x_aload_n d_Model_init_140 rfl rfl ?_
  refine x_bipush (v := 24) d_Model_init_141 (by decide) ?_
  refine x_inew (N := 24) d_Model_init_143 (by decide +kernel) (by decide) (by decide) (by decide) u_143 (fun q143 hq143 => ?_)
  show xw G m_Model_init F L (bc - 1) (bs - 24) pr px 145 [some (.ref a0), none] [.ref q143, .ref a0] (xw_up h q143 (.inl (0, 24, .inl ((fun _ => 0)))))
  refine x_putF (ty := (.array .int)) d_Model_init_145 f_Model_62 fw_Model_24.1 rfl rfl fw_Model_24.2 rfl rfl (by simp [l_a0]) ((xw_up_n _ _ (xw_neN e_a0 hq143)).trans e_a0) ?_
  show xw G m_Model_init F L (bc - 1) (bs - 24) pr px 148 [some (.ref a0), none] [] (xw_up (xw_up h q143 (.inl (0, 24, .inl ((fun _ => 0))))) a0 (.inr (11, (fs_a0.set 24 (.ref q143)))))
  refine x_aload_n d_Model_init_148 rfl rfl ?_
  refine x_sipush (v := 600) d_Model_init_149 (by decide) ?_
  refine x_inew (N := 600) d_Model_init_152 (by decide +kernel) (by decide) (by decide) (by decide) u_152 (fun q152 hq152 => ?_)
  show xw G m_Model_init F L ((bc - 1) - 1) ((bs - 24) - 600) pr px 154 [some (.ref a0), none] [.ref q152, .ref a0] (xw_up (xw_up (xw_up h q143 (.inl (0, 24, .inl ((fun _ => 0))))) a0 (.inr (11, (fs_a0.set 24 (.ref q143))))) q152 (.inl (0, 600, .inl ((fun _ => 0)))))
  refine x_putF (ty := (.array .int)) d_Model_init_154 f_Model_65 fw_Model_25.1 rfl rfl fw_Model_25.2 rfl rfl (by simp [l_a0]) ((xw_up_n _ _ (xw_neN (xw_up_s _ _ _) hq152)).trans (xw_up_s _ _ _)) ?_
  show xw G m_Model_init F L ((bc - 1) - 1) ((bs - 24) - 600) pr px 157 [some (.ref a0), none] [] (xw_up (xw_up (xw_up (xw_up h q143 (.inl (0, 24, .inl ((fun _ => 0))))) a0 (.inr (11, (fs_a0.set 24 (.ref q143))))) q152 (.inl (0, 600, .inl ((fun _ => 0))))) a0 (.inr (11, ((fs_a0.set 24 (.ref q143)).set 25 (.ref q152)))))
  exact (k q143 hq143 q152 hq152)
theorem s_Model_init_157 {G : xw_G} {F L bc bs : Nat} {pr : Option Value → xw_A → Prop} {px : String → xw_A → Prop} {h : xw_A} {a0 : Nat} {fs_a0 : List Value} (l_a0 : fs_a0.length = 62) (e_a0 : h a0 = some (.inr (11, fs_a0))) (u_170 : 1 ≤ bc ∧ 13 ≤ bs) (k : ∀ q170 : Nat, (xw_up (xw_up h a0 (.inr (11, (fs_a0.set 32 (.int ((-1))))))) a0 (.inr (11, ((fs_a0.set 32 (.int ((-1)))).set 33 (.int ((-1))))))) q170 = none → xw G m_Model_init F L (bc - 1) (bs - 13) pr px 175 [some (.ref a0), none] [] (xw_up (xw_up (xw_up (xw_up h a0 (.inr (11, (fs_a0.set 32 (.int ((-1))))))) a0 (.inr (11, ((fs_a0.set 32 (.int ((-1)))).set 33 (.int ((-1))))))) q170 (.inl (0, 13, .inl ((fun _ => 0))))) a0 (.inr (11, (((fs_a0.set 32 (.int ((-1)))).set 33 (.int ((-1)))).set 41 (.ref q170)))))) : xw G m_Model_init F L bc bs pr px 157 [some (.ref a0), none] [] h := by
  refine x_aload_n d_Model_init_157 rfl rfl ?_
  refine x_iconst (v := -1) d_Model_init_158 (by decide) ?_
  refine x_put (ty := .int) d_Model_init_159 f_Model_68 fw_Model_32.1 fw_Model_32.2 rfl rfl (by simp [l_a0]) e_a0 ?_
  show xw G m_Model_init F L bc bs pr px 162 [some (.ref a0), none] [] (xw_up h a0 (.inr (11, (fs_a0.set 32 (.int ((-1)))))))
  refine x_aload_n d_Model_init_162 rfl rfl ?_
  refine x_iconst (v := -1) d_Model_init_163 (by decide) ?_
  refine x_put (ty := .int) d_Model_init_164 f_Model_71 fw_Model_33.1 fw_Model_33.2 rfl rfl (by simp [l_a0]) (xw_up_s _ _ _) ?_
  show xw G m_Model_init F L bc bs pr px 167 [some (.ref a0), none] [] (xw_up (xw_up h a0 (.inr (11, (fs_a0.set 32 (.int ((-1))))))) a0 (.inr (11, ((fs_a0.set 32 (.int ((-1)))).set 33 (.int ((-1)))))))
  refine x_aload_n d_Model_init_167 rfl rfl ?_
  refine x_bipush (v := 13) d_Model_init_168 (by decide) ?_
  refine x_inew (N := 13) d_Model_init_170 (by decide +kernel) (by decide) (by decide) (by decide) u_170 (fun q170 hq170 => ?_)
  show xw G m_Model_init F L (bc - 1) (bs - 13) pr px 172 [some (.ref a0), none] [.ref q170, .ref a0] (xw_up (xw_up (xw_up h a0 (.inr (11, (fs_a0.set 32 (.int ((-1))))))) a0 (.inr (11, ((fs_a0.set 32 (.int ((-1)))).set 33 (.int ((-1))))))) q170 (.inl (0, 13, .inl ((fun _ => 0)))))
  refine x_putF (ty := (.array .int)) d_Model_init_172 f_Model_74 fw_Model_41.1 rfl rfl fw_Model_41.2 rfl rfl (by simp [l_a0]) ((xw_up_n _ _ (xw_neN (xw_up_s _ _ _) hq170)).trans (xw_up_s _ _ _)) ?_
  show xw G m_Model_init F L (bc - 1) (bs - 13) pr px 175 [some (.ref a0), none] [] (xw_up (xw_up (xw_up (xw_up h a0 (.inr (11, (fs_a0.set 32 (.int ((-1))))))) a0 (.inr (11, ((fs_a0.set 32 (.int ((-1)))).set 33 (.int ((-1))))))) q170 (.inl (0, 13, .inl ((fun _ => 0))))) a0 (.inr (11, (((fs_a0.set 32 (.int ((-1)))).set 33 (.int ((-1)))).set 41 (.ref q170)))))
  exact (k q170 hq170)
theorem s_Model_init_175 {G : xw_G} {F L bc bs : Nat} {pr : Option Value → xw_A → Prop} {px : String → xw_A → Prop} {h : xw_A} {a0 : Nat} {fs_a0 : List Value} (u_178 : 1 ≤ bc ∧ 13 ≤ bs) (l_a0 : fs_a0.length = 62) (e_a0 : h a0 = some (.inr (11, fs_a0))) (u_186 : 1 ≤ (bc - 1) ∧ 60 ≤ (bs - 13)) (k : ∀ q178 : Nat, h q178 = none → ∀ q186 : Nat, (xw_up (xw_up h q178 (.inl (0, 13, .inl ((fun _ => 0))))) a0 (.inr (11, (fs_a0.set 42 (.ref q178))))) q186 = none → xw G m_Model_init F L ((bc - 1) - 1) ((bs - 13) - 60) pr px 191 [some (.ref a0), none] [] (xw_up (xw_up (xw_up (xw_up h q178 (.inl (0, 13, .inl ((fun _ => 0))))) a0 (.inr (11, (fs_a0.set 42 (.ref q178))))) q186 (.inl (0, 60, .inl ((fun _ => 0))))) a0 (.inr (11, ((fs_a0.set 42 (.ref q178)).set 43 (.ref q186)))))) : xw G m_Model_init F L bc bs pr px 175 [some (.ref a0), none] [] h := by
  refine x_aload_n d_Model_init_175 rfl rfl ?_
  refine x_bipush (v := 13) d_Model_init_176 (by decide) ?_
  refine x_inew (N := 13) d_Model_init_178 (by decide +kernel) (by decide) (by decide) (by decide) u_178 (fun q178 hq178 => ?_)
  show xw G m_Model_init F L (bc - 1) (bs - 13) pr px 180 [some (.ref a0), none] [.ref q178, .ref a0] (xw_up h q178 (.inl (0, 13, .inl ((fun _ => 0)))))
  refine x_putF (ty := (.array .int)) d_Model_init_180 f_Model_77 fw_Model_42.1 rfl rfl fw_Model_42.2 rfl rfl (by simp [l_a0]) ((xw_up_n _ _ (xw_neN e_a0 hq178)).trans e_a0) ?_
  show xw G m_Model_init F L (bc - 1) (bs - 13) pr px 183 [some (.ref a0), none] [] (xw_up (xw_up h q178 (.inl (0, 13, .inl ((fun _ => 0))))) a0 (.inr (11, (fs_a0.set 42 (.ref q178)))))
  refine x_aload_n d_Model_init_183 rfl rfl ?_
  refine x_bipush (v := 60) d_Model_init_184 (by decide) ?_
  refine x_inew (N := 60) d_Model_init_186 (by decide +kernel) (by decide) (by decide) (by decide) u_186 (fun q186 hq186 => ?_)
  show xw G m_Model_init F L ((bc - 1) - 1) ((bs - 13) - 60) pr px 188 [some (.ref a0), none] [.ref q186, .ref a0] (xw_up (xw_up (xw_up h q178 (.inl (0, 13, .inl ((fun _ => 0))))) a0 (.inr (11, (fs_a0.set 42 (.ref q178))))) q186 (.inl (0, 60, .inl ((fun _ => 0)))))
  refine x_putF (ty := (.array .int)) d_Model_init_188 f_Model_80 fw_Model_43.1 rfl rfl fw_Model_43.2 rfl rfl (by simp [l_a0]) ((xw_up_n _ _ (xw_neN (xw_up_s _ _ _) hq186)).trans (xw_up_s _ _ _)) ?_
  show xw G m_Model_init F L ((bc - 1) - 1) ((bs - 13) - 60) pr px 191 [some (.ref a0), none] [] (xw_up (xw_up (xw_up (xw_up h q178 (.inl (0, 13, .inl ((fun _ => 0))))) a0 (.inr (11, (fs_a0.set 42 (.ref q178))))) q186 (.inl (0, 60, .inl ((fun _ => 0))))) a0 (.inr (11, ((fs_a0.set 42 (.ref q178)).set 43 (.ref q186)))))
  exact (k q178 hq178 q186 hq186)
theorem s_Model_init_191 {G : xw_G} {F L bc bs : Nat} {pr : Option Value → xw_A → Prop} {px : String → xw_A → Prop} {h : xw_A} {a0 : Nat} {fs_a0 : List Value} (u_194 : 1 ≤ bc ∧ 60 ≤ bs) (l_a0 : fs_a0.length = 62) (e_a0 : h a0 = some (.inr (11, fs_a0))) (u_202 : 1 ≤ (bc - 1) ∧ 13 ≤ (bs - 60)) (k : ∀ q194 : Nat, h q194 = none → ∀ q202 : Nat, (xw_up (xw_up h q194 (.inl (0, 60, .inl ((fun _ => 0))))) a0 (.inr (11, (fs_a0.set 44 (.ref q194))))) q202 = none → xw G m_Model_init F L ((bc - 1) - 1) ((bs - 60) - 13) pr px 207 [some (.ref a0), none] [] (xw_up (xw_up (xw_up (xw_up h q194 (.inl (0, 60, .inl ((fun _ => 0))))) a0 (.inr (11, (fs_a0.set 44 (.ref q194))))) q202 (.inl (0, 13, .inl ((fun _ => 0))))) a0 (.inr (11, ((fs_a0.set 44 (.ref q194)).set 45 (.ref q202)))))) : xw G m_Model_init F L bc bs pr px 191 [some (.ref a0), none] [] h := by
  refine x_aload_n d_Model_init_191 rfl rfl ?_
  refine x_bipush (v := 60) d_Model_init_192 (by decide) ?_
  refine x_inew (N := 60) d_Model_init_194 (by decide +kernel) (by decide) (by decide) (by decide) u_194 (fun q194 hq194 => ?_)
  show xw G m_Model_init F L (bc - 1) (bs - 60) pr px 196 [some (.ref a0), none] [.ref q194, .ref a0] (xw_up h q194 (.inl (0, 60, .inl ((fun _ => 0)))))
  refine x_putF (ty := (.array .int)) d_Model_init_196 f_Model_83 fw_Model_44.1 rfl rfl fw_Model_44.2 rfl rfl (by simp [l_a0]) ((xw_up_n _ _ (xw_neN e_a0 hq194)).trans e_a0) ?_
  show xw G m_Model_init F L (bc - 1) (bs - 60) pr px 199 [some (.ref a0), none] [] (xw_up (xw_up h q194 (.inl (0, 60, .inl ((fun _ => 0))))) a0 (.inr (11, (fs_a0.set 44 (.ref q194)))))
  refine x_aload_n d_Model_init_199 rfl rfl ?_
  refine x_bipush (v := 13) d_Model_init_200 (by decide) ?_
  refine x_inew (N := 13) d_Model_init_202 (by decide +kernel) (by decide) (by decide) (by decide) u_202 (fun q202 hq202 => ?_)
  show xw G m_Model_init F L ((bc - 1) - 1) ((bs - 60) - 13) pr px 204 [some (.ref a0), none] [.ref q202, .ref a0] (xw_up (xw_up (xw_up h q194 (.inl (0, 60, .inl ((fun _ => 0))))) a0 (.inr (11, (fs_a0.set 44 (.ref q194))))) q202 (.inl (0, 13, .inl ((fun _ => 0)))))
  refine x_putF (ty := (.array .int)) d_Model_init_204 f_Model_86 fw_Model_45.1 rfl rfl fw_Model_45.2 rfl rfl (by simp [l_a0]) ((xw_up_n _ _ (xw_neN (xw_up_s _ _ _) hq202)).trans (xw_up_s _ _ _)) ?_
  show xw G m_Model_init F L ((bc - 1) - 1) ((bs - 60) - 13) pr px 207 [some (.ref a0), none] [] (xw_up (xw_up (xw_up (xw_up h q194 (.inl (0, 60, .inl ((fun _ => 0))))) a0 (.inr (11, (fs_a0.set 44 (.ref q194))))) q202 (.inl (0, 13, .inl ((fun _ => 0))))) a0 (.inr (11, ((fs_a0.set 44 (.ref q194)).set 45 (.ref q202)))))
  exact (k q194 hq194 q202 hq202)
theorem s_Model_init_207 {G : xw_G} {F L bc bs : Nat} {pr : Option Value → xw_A → Prop} {px : String → xw_A → Prop} {h : xw_A} {a0 : Nat} {fs_a0 : List Value} (u_210 : 1 ≤ bc ∧ 13 ≤ bs) (l_a0 : fs_a0.length = 62) (e_a0 : h a0 = some (.inr (11, fs_a0))) (u_218 : 1 ≤ (bc - 1) ∧ 13 ≤ (bs - 13)) (k : ∀ q210 : Nat, h q210 = none → ∀ q218 : Nat, (xw_up (xw_up h q210 (.inl (0, 13, .inl ((fun _ => 0))))) a0 (.inr (11, (fs_a0.set 46 (.ref q210))))) q218 = none → xw G m_Model_init F L ((bc - 1) - 1) ((bs - 13) - 13) pr px 223 [some (.ref a0), none] [] (xw_up (xw_up (xw_up (xw_up h q210 (.inl (0, 13, .inl ((fun _ => 0))))) a0 (.inr (11, (fs_a0.set 46 (.ref q210))))) q218 (.inl (0, 13, .inl ((fun _ => 0))))) a0 (.inr (11, ((fs_a0.set 46 (.ref q210)).set 47 (.ref q218)))))) : xw G m_Model_init F L bc bs pr px 207 [some (.ref a0), none] [] h := by
  refine x_aload_n d_Model_init_207 rfl rfl ?_
  refine x_bipush (v := 13) d_Model_init_208 (by decide) ?_
  refine x_inew (N := 13) d_Model_init_210 (by decide +kernel) (by decide) (by decide) (by decide) u_210 (fun q210 hq210 => ?_)
  show xw G m_Model_init F L (bc - 1) (bs - 13) pr px 212 [some (.ref a0), none] [.ref q210, .ref a0] (xw_up h q210 (.inl (0, 13, .inl ((fun _ => 0)))))
  refine x_putF (ty := (.array .int)) d_Model_init_212 f_Model_89 fw_Model_46.1 rfl rfl fw_Model_46.2 rfl rfl (by simp [l_a0]) ((xw_up_n _ _ (xw_neN e_a0 hq210)).trans e_a0) ?_
  show xw G m_Model_init F L (bc - 1) (bs - 13) pr px 215 [some (.ref a0), none] [] (xw_up (xw_up h q210 (.inl (0, 13, .inl ((fun _ => 0))))) a0 (.inr (11, (fs_a0.set 46 (.ref q210)))))
  refine x_aload_n d_Model_init_215 rfl rfl ?_
  refine x_bipush (v := 13) d_Model_init_216 (by decide) ?_
  refine x_inew (N := 13) d_Model_init_218 (by decide +kernel) (by decide) (by decide) (by decide) u_218 (fun q218 hq218 => ?_)
  show xw G m_Model_init F L ((bc - 1) - 1) ((bs - 13) - 13) pr px 220 [some (.ref a0), none] [.ref q218, .ref a0] (xw_up (xw_up (xw_up h q210 (.inl (0, 13, .inl ((fun _ => 0))))) a0 (.inr (11, (fs_a0.set 46 (.ref q210))))) q218 (.inl (0, 13, .inl ((fun _ => 0)))))
  refine x_putF (ty := (.array .int)) d_Model_init_220 f_Model_92 fw_Model_47.1 rfl rfl fw_Model_47.2 rfl rfl (by simp [l_a0]) ((xw_up_n _ _ (xw_neN (xw_up_s _ _ _) hq218)).trans (xw_up_s _ _ _)) ?_
  show xw G m_Model_init F L ((bc - 1) - 1) ((bs - 13) - 13) pr px 223 [some (.ref a0), none] [] (xw_up (xw_up (xw_up (xw_up h q210 (.inl (0, 13, .inl ((fun _ => 0))))) a0 (.inr (11, (fs_a0.set 46 (.ref q210))))) q218 (.inl (0, 13, .inl ((fun _ => 0))))) a0 (.inr (11, ((fs_a0.set 46 (.ref q210)).set 47 (.ref q218)))))
  exact (k q210 hq210 q218 hq218)
theorem s_Model_init_223 {G : xw_G} {F L bc bs : Nat} {pr : Option Value → xw_A → Prop} {px : String → xw_A → Prop} {h : xw_A} {a0 : Nat} {fs_a0 : List Value} (u_226 : 1 ≤ bc ∧ 13 ≤ bs) (l_a0 : fs_a0.length = 62) (e_a0 : h a0 = some (.inr (11, fs_a0))) (u_234 : 1 ≤ (bc - 1) ∧ 13 ≤ (bs - 13)) (k : ∀ q226 : Nat, h q226 = none → ∀ q234 : Nat, (xw_up (xw_up h q226 (.inl (0, 13, .inl ((fun _ => 0))))) a0 (.inr (11, (fs_a0.set 48 (.ref q226))))) q234 = none → xw G m_Model_init F L ((bc - 1) - 1) ((bs - 13) - 13) pr px 239 [some (.ref a0), none] [] (xw_up (xw_up (xw_up (xw_up h q226 (.inl (0, 13, .inl ((fun _ => 0))))) a0 (.inr (11, (fs_a0.set 48 (.ref q226))))) q234 (.inl (0, 13, .inl ((fun _ => 0))))) a0 (.inr (11, ((fs_a0.set 48 (.ref q226)).set 49 (.ref q234)))))) : xw G m_Model_init F L bc bs pr px 223 [some (.ref a0), none] [] h := by
  refine x_aload_n d_Model_init_223 rfl rfl ?_
  refine x_bipush (v := 13) d_Model_init_224 (by decide) ?_
  refine x_inew (N := 13) d_Model_init_226 (by decide +kernel) (by decide) (by decide) (by decide) u_226 (fun q226 hq226 => ?_)
  show xw G m_Model_init F L (bc - 1) (bs - 13) pr px 228 [some (.ref a0), none] [.ref q226, .ref a0] (xw_up h q226 (.inl (0, 13, .inl ((fun _ => 0)))))
  refine x_putF (ty := (.array .int)) d_Model_init_228 f_Model_95 fw_Model_48.1 rfl rfl fw_Model_48.2 rfl rfl (by simp [l_a0]) ((xw_up_n _ _ (xw_neN e_a0 hq226)).trans e_a0) ?_
  show xw G m_Model_init F L (bc - 1) (bs - 13) pr px 231 [some (.ref a0), none] [] (xw_up (xw_up h q226 (.inl (0, 13, .inl ((fun _ => 0))))) a0 (.inr (11, (fs_a0.set 48 (.ref q226)))))
  refine x_aload_n d_Model_init_231 rfl rfl ?_
  refine x_bipush (v := 13) d_Model_init_232 (by decide) ?_
  refine x_inew (N := 13) d_Model_init_234 (by decide +kernel) (by decide) (by decide) (by decide) u_234 (fun q234 hq234 => ?_)
  show xw G m_Model_init F L ((bc - 1) - 1) ((bs - 13) - 13) pr px 236 [some (.ref a0), none] [.ref q234, .ref a0] (xw_up (xw_up (xw_up h q226 (.inl (0, 13, .inl ((fun _ => 0))))) a0 (.inr (11, (fs_a0.set 48 (.ref q226))))) q234 (.inl (0, 13, .inl ((fun _ => 0)))))
  refine x_putF (ty := (.array .int)) d_Model_init_236 f_Model_98 fw_Model_49.1 rfl rfl fw_Model_49.2 rfl rfl (by simp [l_a0]) ((xw_up_n _ _ (xw_neN (xw_up_s _ _ _) hq234)).trans (xw_up_s _ _ _)) ?_
  show xw G m_Model_init F L ((bc - 1) - 1) ((bs - 13) - 13) pr px 239 [some (.ref a0), none] [] (xw_up (xw_up (xw_up (xw_up h q226 (.inl (0, 13, .inl ((fun _ => 0))))) a0 (.inr (11, (fs_a0.set 48 (.ref q226))))) q234 (.inl (0, 13, .inl ((fun _ => 0))))) a0 (.inr (11, ((fs_a0.set 48 (.ref q226)).set 49 (.ref q234)))))
  exact (k q226 hq226 q234 hq234)
theorem s_Model_init_239 {G : xw_G} {F L bc bs : Nat} {pr : Option Value → xw_A → Prop} {px : String → xw_A → Prop} {h : xw_A} {a0 : Nat} {fs_a0 : List Value} (u_242 : 1 ≤ bc ∧ 60 ≤ bs) (l_a0 : fs_a0.length = 62) (e_a0 : h a0 = some (.inr (11, fs_a0))) (u_250 : 1 ≤ (bc - 1) ∧ 60 ≤ (bs - 60)) (k : ∀ q242 : Nat, h q242 = none → ∀ q250 : Nat, (xw_up (xw_up h q242 (.inl (0, 60, .inl ((fun _ => 0))))) a0 (.inr (11, (fs_a0.set 50 (.ref q242))))) q250 = none → xw G m_Model_init F L ((bc - 1) - 1) ((bs - 60) - 60) pr px 255 [some (.ref a0), none] [] (xw_up (xw_up (xw_up (xw_up h q242 (.inl (0, 60, .inl ((fun _ => 0))))) a0 (.inr (11, (fs_a0.set 50 (.ref q242))))) q250 (.inl (0, 60, .inl ((fun _ => 0))))) a0 (.inr (11, ((fs_a0.set 50 (.ref q242)).set 51 (.ref q250)))))) : xw G m_Model_init F L bc bs pr px 239 [some (.ref a0), none] [] h := by
  refine x_aload_n d_Model_init_239 rfl rfl ?_
  refine x_bipush (v := 60) d_Model_init_240 (by decide) ?_
  refine x_inew (N := 60) d_Model_init_242 (by decide +kernel) (by decide) (by decide) (by decide) u_242 (fun q242 hq242 => ?_)
  show xw G m_Model_init F L (bc - 1) (bs - 60) pr px 244 [some (.ref a0), none] [.ref q242, .ref a0] (xw_up h q242 (.inl (0, 60, .inl ((fun _ => 0)))))
  refine x_putF (ty := (.array .int)) d_Model_init_244 f_Model_101 fw_Model_50.1 rfl rfl fw_Model_50.2 rfl rfl (by simp [l_a0]) ((xw_up_n _ _ (xw_neN e_a0 hq242)).trans e_a0) ?_
  show xw G m_Model_init F L (bc - 1) (bs - 60) pr px 247 [some (.ref a0), none] [] (xw_up (xw_up h q242 (.inl (0, 60, .inl ((fun _ => 0))))) a0 (.inr (11, (fs_a0.set 50 (.ref q242)))))
  refine x_aload_n d_Model_init_247 rfl rfl ?_
  refine x_bipush (v := 60) d_Model_init_248 (by decide) ?_
  refine x_inew (N := 60) d_Model_init_250 (by decide +kernel) (by decide) (by decide) (by decide) u_250 (fun q250 hq250 => ?_)
  show xw G m_Model_init F L ((bc - 1) - 1) ((bs - 60) - 60) pr px 252 [some (.ref a0), none] [.ref q250, .ref a0] (xw_up (xw_up (xw_up h q242 (.inl (0, 60, .inl ((fun _ => 0))))) a0 (.inr (11, (fs_a0.set 50 (.ref q242))))) q250 (.inl (0, 60, .inl ((fun _ => 0)))))
  refine x_putF (ty := (.array .int)) d_Model_init_252 f_Model_104 fw_Model_51.1 rfl rfl fw_Model_51.2 rfl rfl (by simp [l_a0]) ((xw_up_n _ _ (xw_neN (xw_up_s _ _ _) hq250)).trans (xw_up_s _ _ _)) ?_
  show xw G m_Model_init F L ((bc - 1) - 1) ((bs - 60) - 60) pr px 255 [some (.ref a0), none] [] (xw_up (xw_up (xw_up (xw_up h q242 (.inl (0, 60, .inl ((fun _ => 0))))) a0 (.inr (11, (fs_a0.set 50 (.ref q242))))) q250 (.inl (0, 60, .inl ((fun _ => 0))))) a0 (.inr (11, ((fs_a0.set 50 (.ref q242)).set 51 (.ref q250)))))
  exact (k q242 hq242 q250 hq250)
theorem s_Model_init_255 {G : xw_G} {F L bc bs : Nat} {pr : Option Value → xw_A → Prop} {px : String → xw_A → Prop} {h : xw_A} {a0 : Nat} {fs_a0 : List Value} (u_258 : 1 ≤ bc ∧ 60 ≤ bs) (l_a0 : fs_a0.length = 62) (e_a0 : h a0 = some (.inr (11, fs_a0))) (u_266 : 1 ≤ (bc - 1) ∧ 24 ≤ (bs - 60)) (k : ∀ q258 : Nat, h q258 = none → ∀ q266 : Nat, (xw_up (xw_up h q258 (.inl (0, 60, .inl ((fun _ => 0))))) a0 (.inr (11, (fs_a0.set 52 (.ref q258))))) q266 = none → xw G m_Model_init F L ((bc - 1) - 1) ((bs - 60) - 24) pr px 271 [some (.ref a0), none] [] (xw_up (xw_up (xw_up (xw_up h q258 (.inl (0, 60, .inl ((fun _ => 0))))) a0 (.inr (11, (fs_a0.set 52 (.ref q258))))) q266 (.inl (0, 24, .inl ((fun _ => 0))))) a0 (.inr (11, ((fs_a0.set 52 (.ref q258)).set 53 (.ref q266)))))) : xw G m_Model_init F L bc bs pr px 255 [some (.ref a0), none] [] h := by
  refine x_aload_n d_Model_init_255 rfl rfl ?_
  refine x_bipush (v := 60) d_Model_init_256 (by decide) ?_
  refine x_inew (N := 60) d_Model_init_258 (by decide +kernel) (by decide) (by decide) (by decide) u_258 (fun q258 hq258 => ?_)
  show xw G m_Model_init F L (bc - 1) (bs - 60) pr px 260 [some (.ref a0), none] [.ref q258, .ref a0] (xw_up h q258 (.inl (0, 60, .inl ((fun _ => 0)))))
  refine x_putF (ty := (.array .int)) d_Model_init_260 f_Model_107 fw_Model_52.1 rfl rfl fw_Model_52.2 rfl rfl (by simp [l_a0]) ((xw_up_n _ _ (xw_neN e_a0 hq258)).trans e_a0) ?_
  show xw G m_Model_init F L (bc - 1) (bs - 60) pr px 263 [some (.ref a0), none] [] (xw_up (xw_up h q258 (.inl (0, 60, .inl ((fun _ => 0))))) a0 (.inr (11, (fs_a0.set 52 (.ref q258)))))
  refine x_aload_n d_Model_init_263 rfl rfl ?_
  refine x_bipush (v := 24) d_Model_init_264 (by decide) ?_
  refine x_inew (N := 24) d_Model_init_266 (by decide +kernel) (by decide) (by decide) (by decide) u_266 (fun q266 hq266 => ?_)
  show xw G m_Model_init F L ((bc - 1) - 1) ((bs - 60) - 24) pr px 268 [some (.ref a0), none] [.ref q266, .ref a0] (xw_up (xw_up (xw_up h q258 (.inl (0, 60, .inl ((fun _ => 0))))) a0 (.inr (11, (fs_a0.set 52 (.ref q258))))) q266 (.inl (0, 24, .inl ((fun _ => 0)))))
  refine x_putF (ty := (.array .int)) d_Model_init_268 f_Model_110 fw_Model_53.1 rfl rfl fw_Model_53.2 rfl rfl (by simp [l_a0]) ((xw_up_n _ _ (xw_neN (xw_up_s _ _ _) hq266)).trans (xw_up_s _ _ _)) ?_
  show xw G m_Model_init F L ((bc - 1) - 1) ((bs - 60) - 24) pr px 271 [some (.ref a0), none] [] (xw_up (xw_up (xw_up (xw_up h q258 (.inl (0, 60, .inl ((fun _ => 0))))) a0 (.inr (11, (fs_a0.set 52 (.ref q258))))) q266 (.inl (0, 24, .inl ((fun _ => 0))))) a0 (.inr (11, ((fs_a0.set 52 (.ref q258)).set 53 (.ref q266)))))
  exact (k q258 hq258 q266 hq266)
theorem s_Model_init_271 {G : xw_G} {F L bc bs : Nat} {pr : Option Value → xw_A → Prop} {px : String → xw_A → Prop} {h : xw_A} {a0 : Nat} {fs_a0 : List Value} (u_274 : 1 ≤ bc ∧ 24 ≤ bs) (l_a0 : fs_a0.length = 62) (e_a0 : h a0 = some (.inr (11, fs_a0))) (u_282 : 1 ≤ (bc - 1) ∧ 60 ≤ (bs - 24)) (k : ∀ q274 : Nat, h q274 = none → ∀ q282 : Nat, (xw_up (xw_up h q274 (.inl (0, 24, .inl ((fun _ => 0))))) a0 (.inr (11, (fs_a0.set 54 (.ref q274))))) q282 = none → xw G m_Model_init F L ((bc - 1) - 1) ((bs - 24) - 60) pr px 287 [some (.ref a0), none] [] (xw_up (xw_up (xw_up (xw_up h q274 (.inl (0, 24, .inl ((fun _ => 0))))) a0 (.inr (11, (fs_a0.set 54 (.ref q274))))) q282 (.inl (4, 60, .inl ((fun _ => 0))))) a0 (.inr (11, ((fs_a0.set 54 (.ref q274)).set 57 (.ref q282)))))) : xw G m_Model_init F L bc bs pr px 271 [some (.ref a0), none] [] h := by
  refine x_aload_n d_Model_init_271 rfl rfl ?_
  refine x_bipush (v := 24) d_Model_init_272 (by decide) ?_
  refine x_inew (N := 24) d_Model_init_274 (by decide +kernel) (by decide) (by decide) (by decide) u_274 (fun q274 hq274 => ?_)
  show xw G m_Model_init F L (bc - 1) (bs - 24) pr px 276 [some (.ref a0), none] [.ref q274, .ref a0] (xw_up h q274 (.inl (0, 24, .inl ((fun _ => 0)))))
  refine x_putF (ty := (.array .int)) d_Model_init_276 f_Model_113 fw_Model_54.1 rfl rfl fw_Model_54.2 rfl rfl (by simp [l_a0]) ((xw_up_n _ _ (xw_neN e_a0 hq274)).trans e_a0) ?_
  show xw G m_Model_init F L (bc - 1) (bs - 24) pr px 279 [some (.ref a0), none] [] (xw_up (xw_up h q274 (.inl (0, 24, .inl ((fun _ => 0))))) a0 (.inr (11, (fs_a0.set 54 (.ref q274)))))
  refine x_aload_n d_Model_init_279 rfl rfl ?_
  refine x_bipush (v := 60) d_Model_init_280 (by decide) ?_
  refine x_znew (N := 60) d_Model_init_282 (by decide +kernel) (by decide) (by decide) (by decide) u_282 (fun q282 hq282 => ?_)
  show xw G m_Model_init F L ((bc - 1) - 1) ((bs - 24) - 60) pr px 284 [some (.ref a0), none] [.ref q282, .ref a0] (xw_up (xw_up (xw_up h q274 (.inl (0, 24, .inl ((fun _ => 0))))) a0 (.inr (11, (fs_a0.set 54 (.ref q274))))) q282 (.inl (4, 60, .inl ((fun _ => 0)))))
  refine x_putF (ty := (.array .boolean)) d_Model_init_284 f_Model_116 fw_Model_57.1 rfl rfl fw_Model_57.2 rfl rfl (by simp [l_a0]) ((xw_up_n _ _ (xw_neN (xw_up_s _ _ _) hq282)).trans (xw_up_s _ _ _)) ?_
  show xw G m_Model_init F L ((bc - 1) - 1) ((bs - 24) - 60) pr px 287 [some (.ref a0), none] [] (xw_up (xw_up (xw_up (xw_up h q274 (.inl (0, 24, .inl ((fun _ => 0))))) a0 (.inr (11, (fs_a0.set 54 (.ref q274))))) q282 (.inl (4, 60, .inl ((fun _ => 0))))) a0 (.inr (11, ((fs_a0.set 54 (.ref q274)).set 57 (.ref q282)))))
  exact (k q274 hq274 q282 hq282)
theorem s_Model_init_287 {G : xw_G} {F L bc bs : Nat} {pr : Option Value → xw_A → Prop} {px : String → xw_A → Prop} {h : xw_A} {a0 : Nat} {fs_a0 : List Value} (u_290 : 1 ≤ bc ∧ 24 ≤ bs) (l_a0 : fs_a0.length = 62) (e_a0 : h a0 = some (.inr (11, fs_a0))) (u_298 : 1 ≤ (bc - 1) ∧ 24 ≤ (bs - 24)) (k : ∀ q290 : Nat, h q290 = none → ∀ q298 : Nat, (xw_up (xw_up h q290 (.inl (0, 24, .inl ((fun _ => 0))))) a0 (.inr (11, (fs_a0.set 58 (.ref q290))))) q298 = none → xw G m_Model_init F L ((bc - 1) - 1) ((bs - 24) - 24) pr px 303 [some (.ref a0), none] [] (xw_up (xw_up (xw_up (xw_up h q290 (.inl (0, 24, .inl ((fun _ => 0))))) a0 (.inr (11, (fs_a0.set 58 (.ref q290))))) q298 (.inl (0, 24, .inl ((fun _ => 0))))) a0 (.inr (11, ((fs_a0.set 58 (.ref q290)).set 59 (.ref q298)))))) : xw G m_Model_init F L bc bs pr px 287 [some (.ref a0), none] [] h := by
  refine x_aload_n d_Model_init_287 rfl rfl ?_
  refine x_bipush (v := 24) d_Model_init_288 (by decide) ?_
  refine x_inew (N := 24) d_Model_init_290 (by decide +kernel) (by decide) (by decide) (by decide) u_290 (fun q290 hq290 => ?_)
  show xw G m_Model_init F L (bc - 1) (bs - 24) pr px 292 [some (.ref a0), none] [.ref q290, .ref a0] (xw_up h q290 (.inl (0, 24, .inl ((fun _ => 0)))))
  refine x_putF (ty := (.array .int)) d_Model_init_292 f_Model_120 fw_Model_58.1 rfl rfl fw_Model_58.2 rfl rfl (by simp [l_a0]) ((xw_up_n _ _ (xw_neN e_a0 hq290)).trans e_a0) ?_
  show xw G m_Model_init F L (bc - 1) (bs - 24) pr px 295 [some (.ref a0), none] [] (xw_up (xw_up h q290 (.inl (0, 24, .inl ((fun _ => 0))))) a0 (.inr (11, (fs_a0.set 58 (.ref q290)))))
  refine x_aload_n d_Model_init_295 rfl rfl ?_
  refine x_bipush (v := 24) d_Model_init_296 (by decide) ?_
  refine x_inew (N := 24) d_Model_init_298 (by decide +kernel) (by decide) (by decide) (by decide) u_298 (fun q298 hq298 => ?_)
  show xw G m_Model_init F L ((bc - 1) - 1) ((bs - 24) - 24) pr px 300 [some (.ref a0), none] [.ref q298, .ref a0] (xw_up (xw_up (xw_up h q290 (.inl (0, 24, .inl ((fun _ => 0))))) a0 (.inr (11, (fs_a0.set 58 (.ref q290))))) q298 (.inl (0, 24, .inl ((fun _ => 0)))))
  refine x_putF (ty := (.array .int)) d_Model_init_300 f_Model_123 fw_Model_59.1 rfl rfl fw_Model_59.2 rfl rfl (by simp [l_a0]) ((xw_up_n _ _ (xw_neN (xw_up_s _ _ _) hq298)).trans (xw_up_s _ _ _)) ?_
  show xw G m_Model_init F L ((bc - 1) - 1) ((bs - 24) - 24) pr px 303 [some (.ref a0), none] [] (xw_up (xw_up (xw_up (xw_up h q290 (.inl (0, 24, .inl ((fun _ => 0))))) a0 (.inr (11, (fs_a0.set 58 (.ref q290))))) q298 (.inl (0, 24, .inl ((fun _ => 0))))) a0 (.inr (11, ((fs_a0.set 58 (.ref q290)).set 59 (.ref q298)))))
  exact (k q290 hq290 q298 hq298)
theorem s_Model_init_303 {G : xw_G} {F L bc bs : Nat} {pr : Option Value → xw_A → Prop} {px : String → xw_A → Prop} {h : xw_A} {a0 : Nat} {fs_a0 : List Value} {weights_a0 : Nat} {n_weights_a0 : Nat} {f_weights_a0 : Nat → Int32} (u_306 : 1 ≤ bc ∧ 24 ≤ bs) (l_a0 : fs_a0.length = 62) (e_a0 : h a0 = some (.inr (11, fs_a0))) (g_a0_weights : fs_a0[(9 : Nat)]? = some (.ref weights_a0)) (e_weights_a0 : h weights_a0 = some (.inl (0, n_weights_a0, .inl f_weights_a0))) (i_317 : vp_in 0 n_weights_a0) (i_324 : vp_in 1 n_weights_a0) (k : ∀ q306 : Nat, h q306 = none → xw G m_Model_init F L (bc - 1) (bs - 24) pr px 325 [some (.ref a0), none] [] (xw_up (xw_up (xw_up (xw_up h q306 (.inl (3, 24, .inr (.inr (.inr (.inl ((fun _ => 0)))))))) a0 (.inr (11, (fs_a0.set 60 (.ref q306))))) weights_a0 (.inl (0, n_weights_a0, .inl (upd f_weights_a0 ((0 : Int32)).toNatClampNeg 1)))) weights_a0 (.inl (0, n_weights_a0, .inl (upd (upd f_weights_a0 ((0 : Int32)).toNatClampNeg 1) ((1 : Int32)).toNatClampNeg 1))))) : xw G m_Model_init F L bc bs pr px 303 [some (.ref a0), none] [] h := by
  refine x_aload_n d_Model_init_303 rfl rfl ?_
  refine x_bipush (v := 24) d_Model_init_304 (by decide) ?_
  refine x_dnew (N := 24) d_Model_init_306 (by decide +kernel) (by decide) (by decide) (by decide) u_306 (fun q306 hq306 => ?_)
  show xw G m_Model_init F L (bc - 1) (bs - 24) pr px 308 [some (.ref a0), none] [.ref q306, .ref a0] (xw_up h q306 (.inl (3, 24, .inr (.inr (.inr (.inl ((fun _ => 0))))))))
  refine x_putF (ty := (.array .double)) d_Model_init_308 f_Model_126 fw_Model_60.1 rfl rfl fw_Model_60.2 rfl rfl (by simp [l_a0]) ((xw_up_n _ _ (xw_neN e_a0 hq306)).trans e_a0) ?_
  show xw G m_Model_init F L (bc - 1) (bs - 24) pr px 311 [some (.ref a0), none] [] (xw_up (xw_up h q306 (.inl (3, 24, .inr (.inr (.inr (.inl ((fun _ => 0)))))))) a0 (.inr (11, (fs_a0.set 60 (.ref q306)))))
  refine x_aload_n d_Model_init_311 rfl rfl ?_
  refine x_get d_Model_init_312 f_Model_35 (xw_up_s _ _ _) (xw_gn (by decide) g_a0_weights) ?_
  refine x_iconst (v := 0) d_Model_init_315 (by decide) ?_
  refine x_iconst (v := 1) d_Model_init_316 (by decide) ?_
  refine x_iast d_Model_init_317 ((xw_up_n _ _ (xw_ne e_weights_a0 e_a0 (by simp))).trans ((xw_up_n _ _ (xw_neN e_weights_a0 hq306)).trans e_weights_a0)) i_317 ?_
  refine x_aload_n d_Model_init_318 rfl rfl ?_
  refine x_get d_Model_init_319 f_Model_35 ((xw_up_n _ _ (xw_ne e_a0 e_weights_a0 (by simp))).trans (xw_up_s _ _ _)) (xw_gn (by decide) g_a0_weights) ?_
  refine x_iconst (v := 1) d_Model_init_322 (by decide) ?_
  refine x_iconst (v := 1) d_Model_init_323 (by decide) ?_
  refine x_iast d_Model_init_324 (xw_up_s _ _ _) i_324 ?_
  exact (k q306 hq306)
theorem s_Model_init_325 {G : xw_G} {F L bc bs : Nat} {pr : Option Value → xw_A → Prop} {px : String → xw_A → Prop} {h : xw_A} {a0 : Nat}  (k : xw G m_Model_init F L bc bs pr px 327 [some (.ref a0), some (.int 0)] [] h) : xw G m_Model_init F L bc bs pr px 325 [some (.ref a0), none] [] h := by
  refine x_iconst (v := 0) d_Model_init_325 (by decide) ?_
  refine x_istore_n d_Model_init_326 rfl (by decide) rfl ?_
  show xw G m_Model_init F L bc bs pr px 327 [some (.ref a0), some (.int 0)] [] h
  exact k
theorem s_Model_init_327 {G : xw_G} {F L bc bs : Nat} {pr : Option Value → xw_A → Prop} {px : String → xw_A → Prop} {h : xw_A} {a0 : Nat} {x1 : Int32}  (kt : 24 ≤ x1 → xw G m_Model_init F L bc bs pr px 346 [none, none] [] h) (kf : ¬ 24 ≤ x1 → xw G m_Model_init F L bc bs pr px 333 [some (.ref a0), some (.int x1)] [] h) : xw G m_Model_init F L bc bs pr px 327 [some (.ref a0), some (.int x1)] [] h := by
  refine x_iload_n d_Model_init_327 rfl rfl ?_
  refine x_bipush (v := 24) d_Model_init_328 (by decide) ?_
  refine x_icmp_ge (tgt := 346) d_Model_init_330 (by decide) (fun hc => ?_) (fun hc => ?_)
  · exact x_le (lv' := [none, none]) (xw_le_n (xw_le_n xw_le_e)) (kt hc)
  · exact kf hc
theorem s_Model_init_333 {G : xw_G} {F L bc bs : Nat} {pr : Option Value → xw_A → Prop} {px : String → xw_A → Prop} {h : xw_A} {a0 : Nat} {x1 : Int32} {fs_a0 : List Value} {live_a0 : Nat} {n_live_a0 : Nat} {f_live_a0 : Nat → Int32} (l_a0 : fs_a0.length = 62) (e_a0 : h a0 = some (.inr (11, fs_a0))) (g_a0_live : fs_a0[(14 : Nat)]? = some (.ref live_a0)) (e_live_a0 : h live_a0 = some (.inl (0, n_live_a0, .inl f_live_a0))) (i_339 : vp_in x1 n_live_a0) (k : xw G m_Model_init F L bc bs pr px 327 [some (.ref a0), some (.int (x1 + 1))] [] (xw_up h live_a0 (.inl (0, n_live_a0, .inl (upd f_live_a0 (x1).toNatClampNeg ((-1))))))) : xw G m_Model_init F L bc bs pr px 333 [some (.ref a0), some (.int x1)] [] h := by
  refine x_aload_n d_Model_init_333 rfl rfl ?_
  refine x_get d_Model_init_334 f_Model_44 e_a0 g_a0_live ?_
  refine x_iload_n d_Model_init_337 rfl rfl ?_
  refine x_iconst (v := -1) d_Model_init_338 (by decide) ?_
  refine x_iast d_Model_init_339 e_live_a0 i_339 ?_
  refine x_iinc (v := x1 + 1) d_Model_init_340 rfl (by rfl) (by decide) rfl ?_
  show xw G m_Model_init F L bc bs pr px 343 [some (.ref a0), some (.int (x1 + 1))] [] (xw_up h live_a0 (.inl (0, n_live_a0, .inl (upd f_live_a0 (x1).toNatClampNeg ((-1))))))
  refine x_goto (tgt := 327) d_Model_init_343 (by decide) ?_
  exact k
theorem s_Model_init_346 {G : xw_G} {F L bc bs : Nat} {pr : Option Value → xw_A → Prop} {px : String → xw_A → Prop} {h : xw_A}   (kr : pr none h) : xw G m_Model_init F L bc bs pr px 346 [none, none] [] h := by
  exact x_vret d_Model_init_346 rfl kr
theorem s_Model_thrown_0 {G : xw_G} {F L bc bs : Nat} {pr : Option Value → xw_A → Prop} {px : String → xw_A → Prop} {h : xw_A} {a0 : Nat} {fs_a0 : List Value} {err_a0 : Int32} (l_a0 : fs_a0.length = 62) (e_a0 : h a0 = some (.inr (11, fs_a0))) (g_a0_err : fs_a0[(0 : Nat)]? = some (.int err_a0)) (kr : pr (some (.int err_a0)) h) : xw G m_Model_thrown F L bc bs pr px 0 [some (.ref a0)] [] h := by
  refine x_aload_n d_Model_thrown_0 rfl rfl ?_
  refine x_get d_Model_thrown_1 f_Model_130 e_a0 g_a0_err ?_
  exact x_iret d_Model_thrown_4 rfl kr
theorem s_Model_letters_0 {G : xw_G} {F L bc bs : Nat} {pr : Option Value → xw_A → Prop} {px : String → xw_A → Prop} {h : xw_A} {a0 : Nat} {x1 : Int64} {fs_a0 : List Value} (l_a0 : fs_a0.length = 62) (e_a0 : h a0 = some (.inr (11, fs_a0))) (k : xw G m_Model_letters F L bc bs pr px 10 [some (.ref a0), some (.long x1), none, some (.int 0), some (.int 0), none] [] (xw_up h a0 (.inr (11, (fs_a0.set 0 (.int 0)))))) : xw G m_Model_letters F L bc bs pr px 0 [some (.ref a0), some (.long x1), none, none, none, none] [] h := by
  refine x_aload_n d_Model_letters_0 rfl rfl ?_
  refine x_iconst (v := 0) d_Model_letters_1 (by decide) ?_
  refine x_put (ty := .int) d_Model_letters_2 f_Model_130 fw_Model_0.1 fw_Model_0.2 rfl rfl (by simp [l_a0]) e_a0 ?_
  show xw G m_Model_letters F L bc bs pr px 5 [some (.ref a0), some (.long x1), none, none, none, none] [] (xw_up h a0 (.inr (11, (fs_a0.set 0 (.int 0)))))
  refine x_iconst (v := 0) d_Model_letters_5 (by decide) ?_
  refine x_istore_n d_Model_letters_6 rfl (by decide) trivial ?_
  show xw G m_Model_letters F L bc bs pr px 7 [some (.ref a0), some (.long x1), none, some (.int 0), none, none] [] (xw_up h a0 (.inr (11, (fs_a0.set 0 (.int 0)))))
  refine x_iconst (v := 0) d_Model_letters_7 (by decide) ?_
  refine x_istore d_Model_letters_8 (by decide) rfl ?_
  show xw G m_Model_letters F L bc bs pr px 10 [some (.ref a0), some (.long x1), none, some (.int 0), some (.int 0), none] [] (xw_up h a0 (.inr (11, (fs_a0.set 0 (.int 0)))))
  exact k
theorem s_Model_letters_10 {G : xw_G} {F L bc bs : Nat} {pr : Option Value → xw_A → Prop} {px : String → xw_A → Prop} {h : xw_A} {a0 : Nat} {x1 : Int64} {x3 : Int32} {x4 : Int32}  (kt : 8 ≤ x4 → xw G m_Model_letters F L bc bs pr px 83 [some (.ref a0), some (.long x1), none, some (.int x3), none, none] [] h) (kf : ¬ 8 ≤ x4 → xw G m_Model_letters F L bc bs pr px 17 [some (.ref a0), some (.long x1), none, some (.int x3), some (.int x4), none] [] h) : xw G m_Model_letters F L bc bs pr px 10 [some (.ref a0), some (.long x1), none, some (.int x3), some (.int x4), none] [] h := by
  refine x_iload d_Model_letters_10 rfl ?_
  refine x_bipush (v := 8) d_Model_letters_12 (by decide) ?_
  refine x_icmp_ge (tgt := 83) d_Model_letters_14 (by decide) (fun hc => ?_) (fun hc => ?_)
  · exact x_le (lv' := [some (.ref a0), some (.long x1), none, some (.int x3), none, none]) (xw_le_s (xw_le_s (xw_le_n (xw_le_s (xw_le_n (xw_le_n xw_le_e)))))) (kt hc)
  · exact kf hc
theorem s_Model_letters_17 {G : xw_G} {F L bc bs : Nat} {pr : Option Value → xw_A → Prop} {px : String → xw_A → Prop} {h : xw_A} {a0 : Nat} {x1 : Int64} {x3 : Int32} {x4 : Int32}  (kt : ¬ x3 = x4 → xw G m_Model_letters F L bc bs pr px 83 [some (.ref a0), some (.long x1), none, some (.int x3), none, none] [] h) (kf : x3 = x4 → xw G m_Model_letters F L bc bs pr px 23 [some (.ref a0), some (.long x1), none, some (.int x3), some (.int x4), none] [] h) : xw G m_Model_letters F L bc bs pr px 17 [some (.ref a0), some (.long x1), none, some (.int x3), some (.int x4), none] [] h := by
  refine x_iload_n d_Model_letters_17 rfl rfl ?_
  refine x_iload d_Model_letters_18 rfl ?_
  refine x_icmp_ne (tgt := 83) d_Model_letters_20 (by decide) (fun hc => ?_) (fun hc => ?_)
  · exact x_le (lv' := [some (.ref a0), some (.long x1), none, some (.int x3), none, none]) (xw_le_s (xw_le_s (xw_le_n (xw_le_s (xw_le_n (xw_le_n xw_le_e)))))) (kt hc)
  · exact kf hc
theorem s_Model_letters_23 {G : xw_G} {F L bc bs : Nat} {pr : Option Value → xw_A → Prop} {px : String → xw_A → Prop} {h : xw_A} {a0 : Nat} {x1 : Int64} {x3 : Int32} {x4 : Int32}  (kt : ((((x1.toUInt64 >>> ((8 * x4).toInt64.toUInt64 &&& Int64.toUInt64 63)).toInt64) &&& 255).toInt32) = 0 → xw G m_Model_letters F L bc bs pr px 59 [some (.ref a0), some (.long x1), none, some (.int x3), some (.int x4), some (.int ((((x1.toUInt64 >>> ((8 * x4).toInt64.toUInt64 &&& Int64.toUInt64 63)).toInt64) &&& 255).toInt32))] [.ref a0] h) (kf : ¬ ((((x1.toUInt64 >>> ((8 * x4).toInt64.toUInt64 &&& Int64.toUInt64 63)).toInt64) &&& 255).toInt32) = 0 → xw G m_Model_letters F L bc bs pr px 43 [some (.ref a0), some (.long x1), none, some (.int x3), some (.int x4), some (.int ((((x1.toUInt64 >>> ((8 * x4).toInt64.toUInt64 &&& Int64.toUInt64 63)).toInt64) &&& 255).toInt32))] [.ref a0] h) : xw G m_Model_letters F L bc bs pr px 23 [some (.ref a0), some (.long x1), none, some (.int x3), some (.int x4), none] [] h := by
  refine x_lload_n d_Model_letters_23 rfl rfl ?_
  refine x_bipush (v := 8) d_Model_letters_24 (by decide) ?_
  refine x_iload d_Model_letters_26 rfl ?_
  refine x_imul d_Model_letters_28 ?_
  refine x_lushr d_Model_letters_29 rfl ?_
  refine x_ldc2 (v := 255) d_Model_letters_30 (by decide +kernel) ?_
  refine x_land d_Model_letters_33 ?_
  refine x_l2i d_Model_letters_34 rfl ?_
  refine x_istore d_Model_letters_35 (by decide) rfl ?_
  show xw G m_Model_letters F L bc bs pr px 37 [some (.ref a0), some (.long x1), none, some (.int x3), some (.int x4), some (.int ((((x1.toUInt64 >>> ((8 * x4).toInt64.toUInt64 &&& Int64.toUInt64 63)).toInt64) &&& 255).toInt32))] [] h
  refine x_aload_n d_Model_letters_37 rfl rfl ?_
  refine x_iload d_Model_letters_38 rfl ?_
  refine x_if_eq (tgt := 59) d_Model_letters_40 (by decide) (fun hc => ?_) (fun hc => ?_)
  · exact kt hc
  · exact kf hc
theorem s_Model_letters_43 {G : xw_G} {F L bc bs : Nat} {pr : Option Value → xw_A → Prop} {px : String → xw_A → Prop} {h : xw_A} {a0 : Nat} {x1 : Int64} {x3 : Int32} {x4 : Int32} {x5 : Int32}  (k : xw G m_Model_letters F L bc bs pr px 49 [some (.ref a0), some (.long x1), none, some (.int x3), some (.int x4), some (.int x5)] [.int 126, .int 32, .int x5, .ref a0] h) : xw G m_Model_letters F L bc bs pr px 43 [some (.ref a0), some (.long x1), none, some (.int x3), some (.int x4), some (.int x5)] [.ref a0] h := by
  refine x_iload d_Model_letters_43 rfl ?_
  refine x_bipush (v := 32) d_Model_letters_45 (by decide) ?_
  refine x_bipush (v := 126) d_Model_letters_47 (by decide) ?_
  exact k
theorem s_Model_letters_52 {G : xw_G} {F L bc bs : Nat} {pr : Option Value → xw_A → Prop} {px : String → xw_A → Prop} {h : xw_A} {a0 : Nat} {x1 : Int64} {x3 : Int32} {x4 : Int32} {x5 : Int32} {y0 : Int32}  (kt : ¬ y0 = 0 → xw G m_Model_letters F L bc bs pr px 59 [some (.ref a0), some (.long x1), none, some (.int x3), some (.int x4), some (.int x5)] [.ref a0] h) (kf : y0 = 0 → xw G m_Model_letters F L bc bs pr px 55 [some (.ref a0), some (.long x1), none, some (.int x3), some (.int x4), some (.int x5)] [.ref a0] h) : xw G m_Model_letters F L bc bs pr px 52 [some (.ref a0), some (.long x1), none, some (.int x3), some (.int x4), some (.int x5)] [.int y0, .ref a0] h := by
  refine x_if_ne (tgt := 59) d_Model_letters_52 (by decide) (fun hc => ?_) (fun hc => ?_)
  · exact kt hc
  · exact kf hc
theorem s_Model_letters_55 {G : xw_G} {F L bc bs : Nat} {pr : Option Value → xw_A → Prop} {px : String → xw_A → Prop} {h : xw_A} {a0 : Nat} {x1 : Int64} {x3 : Int32} {x4 : Int32} {x5 : Int32}  (k : xw G m_Model_letters F L bc bs pr px 60 [some (.ref a0), some (.long x1), none, some (.int x3), some (.int x4), some (.int x5)] [.int 1, .ref a0] h) : xw G m_Model_letters F L bc bs pr px 55 [some (.ref a0), some (.long x1), none, some (.int x3), some (.int x4), some (.int x5)] [.ref a0] h := by
  refine x_iconst (v := 1) d_Model_letters_55 (by decide) ?_
  refine x_goto (tgt := 60) d_Model_letters_56 (by decide) ?_
  exact k
theorem s_Model_letters_59 {G : xw_G} {F L bc bs : Nat} {pr : Option Value → xw_A → Prop} {px : String → xw_A → Prop} {h : xw_A} {a0 : Nat} {x1 : Int64} {x3 : Int32} {x4 : Int32} {x5 : Int32}  (k : xw G m_Model_letters F L bc bs pr px 60 [some (.ref a0), some (.long x1), none, some (.int x3), some (.int x4), some (.int x5)] [.int 0, .ref a0] h) : xw G m_Model_letters F L bc bs pr px 59 [some (.ref a0), some (.long x1), none, some (.int x3), some (.int x4), some (.int x5)] [.ref a0] h := by
  refine x_iconst (v := 0) d_Model_letters_59 (by decide) ?_
  exact k
theorem s_Model_letters_60 {G : xw_G} {F L bc bs : Nat} {pr : Option Value → xw_A → Prop} {px : String → xw_A → Prop} {h : xw_A} {a0 : Nat} {x1 : Int64} {x3 : Int32} {x4 : Int32} {x5 : Int32} {y0 : Int32}  (k : xw G m_Model_letters F L bc bs pr px 61 [some (.ref a0), some (.long x1), none, some (.int x3), some (.int x4), some (.int x5)] [.int 1, .int y0, .ref a0] h) : xw G m_Model_letters F L bc bs pr px 60 [some (.ref a0), some (.long x1), none, some (.int x3), some (.int x4), some (.int x5)] [.int y0, .ref a0] h := by
  refine x_iconst (v := 1) d_Model_letters_60 (by decide) ?_
  exact k
theorem s_Model_letters_64 {G : xw_G} {F L bc bs : Nat} {pr : Option Value → xw_A → Prop} {px : String → xw_A → Prop} {h : xw_A} {a0 : Nat} {x1 : Int64} {x3 : Int32} {x4 : Int32} {x5 : Int32} {y0 : Int32}  (kt : y0 = 0 → xw G m_Model_letters F L bc bs pr px 69 [some (.ref a0), some (.long x1), none, some (.int x3), some (.int x4), some (.int x5)] [] h) (kf : ¬ y0 = 0 → xw G m_Model_letters F L bc bs pr px 67 [none, none, none, none, none, none] [] h) : xw G m_Model_letters F L bc bs pr px 64 [some (.ref a0), some (.long x1), none, some (.int x3), some (.int x4), some (.int x5)] [.int y0] h := by
  refine x_if_eq (tgt := 69) d_Model_letters_64 (by decide) (fun hc => ?_) (fun hc => ?_)
  · exact kt hc
  · exact x_le (lv' := [none, none, none, none, none, none]) (xw_le_n (xw_le_n (xw_le_n (xw_le_n (xw_le_n (xw_le_n xw_le_e)))))) (kf hc)
theorem s_Model_letters_67 {G : xw_G} {F L bc bs : Nat} {pr : Option Value → xw_A → Prop} {px : String → xw_A → Prop} {h : xw_A}   (kr : pr (some (.int 0)) h) : xw G m_Model_letters F L bc bs pr px 67 [none, none, none, none, none, none] [] h := by
  refine x_iconst (v := 0) d_Model_letters_67 (by decide) ?_
  exact x_iret d_Model_letters_68 rfl kr
theorem s_Model_letters_69 {G : xw_G} {F L bc bs : Nat} {pr : Option Value → xw_A → Prop} {px : String → xw_A → Prop} {h : xw_A} {a0 : Nat} {x1 : Int64} {x3 : Int32} {x4 : Int32} {x5 : Int32}  (kt : x5 = 0 → xw G m_Model_letters F L bc bs pr px 77 [some (.ref a0), some (.long x1), none, some (.int x3), some (.int x4), none] [] h) (kf : ¬ x5 = 0 → xw G m_Model_letters F L bc bs pr px 74 [some (.ref a0), some (.long x1), none, some (.int x3), some (.int x4), none] [] h) : xw G m_Model_letters F L bc bs pr px 69 [some (.ref a0), some (.long x1), none, some (.int x3), some (.int x4), some (.int x5)] [] h := by
  refine x_iload d_Model_letters_69 rfl ?_
  refine x_if_eq (tgt := 77) d_Model_letters_71 (by decide) (fun hc => ?_) (fun hc => ?_)
  · exact x_le (lv' := [some (.ref a0), some (.long x1), none, some (.int x3), some (.int x4), none]) (xw_le_s (xw_le_s (xw_le_n (xw_le_s (xw_le_s (xw_le_n xw_le_e)))))) (kt hc)
  · exact x_le (lv' := [some (.ref a0), some (.long x1), none, some (.int x3), some (.int x4), none]) (xw_le_s (xw_le_s (xw_le_n (xw_le_s (xw_le_s (xw_le_n xw_le_e)))))) (kf hc)
theorem s_Model_letters_74 {G : xw_G} {F L bc bs : Nat} {pr : Option Value → xw_A → Prop} {px : String → xw_A → Prop} {h : xw_A} {a0 : Nat} {x1 : Int64} {x3 : Int32} {x4 : Int32}  (k : xw G m_Model_letters F L bc bs pr px 77 [some (.ref a0), some (.long x1), none, some (.int (x3 + 1)), some (.int x4), none] [] h) : xw G m_Model_letters F L bc bs pr px 74 [some (.ref a0), some (.long x1), none, some (.int x3), some (.int x4), none] [] h := by
  refine x_iinc (v := x3 + 1) d_Model_letters_74 rfl (by rfl) (by decide) trivial ?_
  show xw G m_Model_letters F L bc bs pr px 77 [some (.ref a0), some (.long x1), none, some (.int (x3 + 1)), some (.int x4), none] [] h
  exact k
theorem s_Model_letters_77 {G : xw_G} {F L bc bs : Nat} {pr : Option Value → xw_A → Prop} {px : String → xw_A → Prop} {h : xw_A} {a0 : Nat} {x1 : Int64} {x3 : Int32} {x4 : Int32}  (k : xw G m_Model_letters F L bc bs pr px 10 [some (.ref a0), some (.long x1), none, some (.int x3), some (.int (x4 + 1)), none] [] h) : xw G m_Model_letters F L bc bs pr px 77 [some (.ref a0), some (.long x1), none, some (.int x3), some (.int x4), none] [] h := by
  refine x_iinc (v := x4 + 1) d_Model_letters_77 rfl (by rfl) (by decide) rfl ?_
  show xw G m_Model_letters F L bc bs pr px 80 [some (.ref a0), some (.long x1), none, some (.int x3), some (.int (x4 + 1)), none] [] h
  refine x_goto (tgt := 10) d_Model_letters_80 (by decide) ?_
  exact k
theorem s_Model_letters_83 {G : xw_G} {F L bc bs : Nat} {pr : Option Value → xw_A → Prop} {px : String → xw_A → Prop} {h : xw_A} {a0 : Nat} {x1 : Int64} {x3 : Int32}  (kt : ¬ x3 = 0 → xw G m_Model_letters F L bc bs pr px 92 [some (.ref a0), some (.long x1), none, some (.int x3), none, none] [.ref a0] h) (kf : x3 = 0 → xw G m_Model_letters F L bc bs pr px 88 [some (.ref a0), some (.long x1), none, some (.int x3), none, none] [.ref a0] h) : xw G m_Model_letters F L bc bs pr px 83 [some (.ref a0), some (.long x1), none, some (.int x3), none, none] [] h := by
  refine x_aload_n d_Model_letters_83 rfl rfl ?_
  refine x_iload_n d_Model_letters_84 rfl rfl ?_
  refine x_if_ne (tgt := 92) d_Model_letters_85 (by decide) (fun hc => ?_) (fun hc => ?_)
  · exact kt hc
  · exact kf hc
theorem s_Model_letters_88 {G : xw_G} {F L bc bs : Nat} {pr : Option Value → xw_A → Prop} {px : String → xw_A → Prop} {h : xw_A} {a0 : Nat} {x1 : Int64} {x3 : Int32}  (k : xw G m_Model_letters F L bc bs pr px 93 [some (.ref a0), some (.long x1), none, some (.int x3), none, none] [.int 1, .ref a0] h) : xw G m_Model_letters F L bc bs pr px 88 [some (.ref a0), some (.long x1), none, some (.int x3), none, none] [.ref a0] h := by
  refine x_iconst (v := 1) d_Model_letters_88 (by decide) ?_
  refine x_goto (tgt := 93) d_Model_letters_89 (by decide) ?_
  exact k
theorem s_Model_letters_92 {G : xw_G} {F L bc bs : Nat} {pr : Option Value → xw_A → Prop} {px : String → xw_A → Prop} {h : xw_A} {a0 : Nat} {x1 : Int64} {x3 : Int32}  (k : xw G m_Model_letters F L bc bs pr px 93 [some (.ref a0), some (.long x1), none, some (.int x3), none, none] [.int 0, .ref a0] h) : xw G m_Model_letters F L bc bs pr px 92 [some (.ref a0), some (.long x1), none, some (.int x3), none, none] [.ref a0] h := by
  refine x_iconst (v := 0) d_Model_letters_92 (by decide) ?_
  exact k
theorem s_Model_letters_93 {G : xw_G} {F L bc bs : Nat} {pr : Option Value → xw_A → Prop} {px : String → xw_A → Prop} {h : xw_A} {a0 : Nat} {x1 : Int64} {x3 : Int32} {y0 : Int32}  (k : xw G m_Model_letters F L bc bs pr px 94 [some (.ref a0), some (.long x1), none, some (.int x3), none, none] [.int 1, .int y0, .ref a0] h) : xw G m_Model_letters F L bc bs pr px 93 [some (.ref a0), some (.long x1), none, some (.int x3), none, none] [.int y0, .ref a0] h := by
  refine x_iconst (v := 1) d_Model_letters_93 (by decide) ?_
  exact k
theorem s_Model_letters_97 {G : xw_G} {F L bc bs : Nat} {pr : Option Value → xw_A → Prop} {px : String → xw_A → Prop} {h : xw_A} {a0 : Nat} {x1 : Int64} {x3 : Int32} {y0 : Int32}  (kt : ¬ y0 = 0 → xw G m_Model_letters F L bc bs pr px 124 [none, none, none, none, none, none] [] h) (kf : y0 = 0 → xw G m_Model_letters F L bc bs pr px 100 [some (.ref a0), some (.long x1), none, some (.int x3), none, none] [] h) : xw G m_Model_letters F L bc bs pr px 97 [some (.ref a0), some (.long x1), none, some (.int x3), none, none] [.int y0] h := by
  refine x_if_ne (tgt := 124) d_Model_letters_97 (by decide) (fun hc => ?_) (fun hc => ?_)
  · exact x_le (lv' := [none, none, none, none, none, none]) (xw_le_n (xw_le_n (xw_le_n (xw_le_n (xw_le_n (xw_le_n xw_le_e)))))) (kt hc)
  · exact kf hc
theorem s_Model_letters_100 {G : xw_G} {F L bc bs : Nat} {pr : Option Value → xw_A → Prop} {px : String → xw_A → Prop} {h : xw_A} {a0 : Nat} {x1 : Int64} {x3 : Int32} {fs_a0 : List Value} {drafted_a0 : Int32} (l_a0 : fs_a0.length = 62) (e_a0 : h a0 = some (.inr (11, fs_a0))) (g_a0_drafted : fs_a0[(10 : Nat)]? = some (.int drafted_a0)) (kt : (drafted_a0 + x3) ≤ 96 → xw G m_Model_letters F L bc bs pr px 116 [some (.ref a0), some (.long x1), none, some (.int x3), none, none] [.ref a0] h) (kf : ¬ (drafted_a0 + x3) ≤ 96 → xw G m_Model_letters F L bc bs pr px 112 [some (.ref a0), some (.long x1), none, some (.int x3), none, none] [.ref a0] h) : xw G m_Model_letters F L bc bs pr px 100 [some (.ref a0), some (.long x1), none, some (.int x3), none, none] [] h := by
  refine x_aload_n d_Model_letters_100 rfl rfl ?_
  refine x_aload_n d_Model_letters_101 rfl rfl ?_
  refine x_get d_Model_letters_102 f_Model_143 e_a0 g_a0_drafted ?_
  refine x_iload_n d_Model_letters_105 rfl rfl ?_
  refine x_iadd d_Model_letters_106 ?_
  refine x_bipush (v := 96) d_Model_letters_107 (by decide) ?_
  refine x_icmp_le (tgt := 116) d_Model_letters_109 (by decide) (fun hc => ?_) (fun hc => ?_)
  · exact kt hc
  · exact kf hc
theorem s_Model_letters_112 {G : xw_G} {F L bc bs : Nat} {pr : Option Value → xw_A → Prop} {px : String → xw_A → Prop} {h : xw_A} {a0 : Nat} {x1 : Int64} {x3 : Int32}  (k : xw G m_Model_letters F L bc bs pr px 117 [some (.ref a0), some (.long x1), none, some (.int x3), none, none] [.int 1, .ref a0] h) : xw G m_Model_letters F L bc bs pr px 112 [some (.ref a0), some (.long x1), none, some (.int x3), none, none] [.ref a0] h := by
  refine x_iconst (v := 1) d_Model_letters_112 (by decide) ?_
  refine x_goto (tgt := 117) d_Model_letters_113 (by decide) ?_
  exact k
theorem s_Model_letters_116 {G : xw_G} {F L bc bs : Nat} {pr : Option Value → xw_A → Prop} {px : String → xw_A → Prop} {h : xw_A} {a0 : Nat} {x1 : Int64} {x3 : Int32}  (k : xw G m_Model_letters F L bc bs pr px 117 [some (.ref a0), some (.long x1), none, some (.int x3), none, none] [.int 0, .ref a0] h) : xw G m_Model_letters F L bc bs pr px 116 [some (.ref a0), some (.long x1), none, some (.int x3), none, none] [.ref a0] h := by
  refine x_iconst (v := 0) d_Model_letters_116 (by decide) ?_
  exact k
theorem s_Model_letters_117 {G : xw_G} {F L bc bs : Nat} {pr : Option Value → xw_A → Prop} {px : String → xw_A → Prop} {h : xw_A} {a0 : Nat} {x1 : Int64} {x3 : Int32} {y0 : Int32}  (k : xw G m_Model_letters F L bc bs pr px 118 [some (.ref a0), some (.long x1), none, some (.int x3), none, none] [.int 2, .int y0, .ref a0] h) : xw G m_Model_letters F L bc bs pr px 117 [some (.ref a0), some (.long x1), none, some (.int x3), none, none] [.int y0, .ref a0] h := by
  refine x_iconst (v := 2) d_Model_letters_117 (by decide) ?_
  exact k
theorem s_Model_letters_121 {G : xw_G} {F L bc bs : Nat} {pr : Option Value → xw_A → Prop} {px : String → xw_A → Prop} {h : xw_A} {a0 : Nat} {x1 : Int64} {x3 : Int32} {y0 : Int32}  (kt : y0 = 0 → xw G m_Model_letters F L bc bs pr px 126 [some (.ref a0), some (.long x1), none, some (.int x3), none, none] [] h) (kf : ¬ y0 = 0 → xw G m_Model_letters F L bc bs pr px 124 [none, none, none, none, none, none] [] h) : xw G m_Model_letters F L bc bs pr px 121 [some (.ref a0), some (.long x1), none, some (.int x3), none, none] [.int y0] h := by
  refine x_if_eq (tgt := 126) d_Model_letters_121 (by decide) (fun hc => ?_) (fun hc => ?_)
  · exact kt hc
  · exact x_le (lv' := [none, none, none, none, none, none]) (xw_le_n (xw_le_n (xw_le_n (xw_le_n (xw_le_n (xw_le_n xw_le_e)))))) (kf hc)
theorem s_Model_letters_124 {G : xw_G} {F L bc bs : Nat} {pr : Option Value → xw_A → Prop} {px : String → xw_A → Prop} {h : xw_A}   (kr : pr (some (.int 0)) h) : xw G m_Model_letters F L bc bs pr px 124 [none, none, none, none, none, none] [] h := by
  refine x_iconst (v := 0) d_Model_letters_124 (by decide) ?_
  exact x_iret d_Model_letters_125 rfl kr
theorem s_Model_letters_126 {G : xw_G} {F L bc bs : Nat} {pr : Option Value → xw_A → Prop} {px : String → xw_A → Prop} {h : xw_A} {a0 : Nat} {x1 : Int64} {x3 : Int32}  (k : xw G m_Model_letters F L bc bs pr px 129 [some (.ref a0), some (.long x1), none, some (.int x3), some (.int 0), none] [] h) : xw G m_Model_letters F L bc bs pr px 126 [some (.ref a0), some (.long x1), none, some (.int x3), none, none] [] h := by
  refine x_iconst (v := 0) d_Model_letters_126 (by decide) ?_
  refine x_istore d_Model_letters_127 (by decide) rfl ?_
  show xw G m_Model_letters F L bc bs pr px 129 [some (.ref a0), some (.long x1), none, some (.int x3), some (.int 0), none] [] h
  exact k
theorem s_Model_letters_129 {G : xw_G} {F L bc bs : Nat} {pr : Option Value → xw_A → Prop} {px : String → xw_A → Prop} {h : xw_A} {a0 : Nat} {x1 : Int64} {x3 : Int32} {x4 : Int32}  (kt : x3 ≤ x4 → xw G m_Model_letters F L bc bs pr px 165 [some (.ref a0), none, none, some (.int x3), none, none] [] h) (kf : ¬ x3 ≤ x4 → xw G m_Model_letters F L bc bs pr px 135 [some (.ref a0), some (.long x1), none, some (.int x3), some (.int x4), none] [] h) : xw G m_Model_letters F L bc bs pr px 129 [some (.ref a0), some (.long x1), none, some (.int x3), some (.int x4), none] [] h := by
  refine x_iload d_Model_letters_129 rfl ?_
  refine x_iload_n d_Model_letters_131 rfl rfl ?_
  refine x_icmp_ge (tgt := 165) d_Model_letters_132 (by decide) (fun hc => ?_) (fun hc => ?_)
  · exact x_le (lv' := [some (.ref a0), none, none, some (.int x3), none, none]) (xw_le_s (xw_le_n (xw_le_n (xw_le_s (xw_le_n (xw_le_n xw_le_e)))))) (kt hc)
  · exact kf hc
theorem s_Model_letters_135 {G : xw_G} {F L bc bs : Nat} {pr : Option Value → xw_A → Prop} {px : String → xw_A → Prop} {h : xw_A} {a0 : Nat} {x1 : Int64} {x3 : Int32} {x4 : Int32} {fs_a0 : List Value} {draft_a0 : Nat} {drafted_a0 : Int32} {n_draft_a0 : Nat} {f_draft_a0 : Nat → Int32} (l_a0 : fs_a0.length = 62) (e_a0 : h a0 = some (.inr (11, fs_a0))) (g_a0_draft : fs_a0[(3 : Nat)]? = some (.ref draft_a0)) (g_a0_drafted : fs_a0[(10 : Nat)]? = some (.int drafted_a0)) (e_draft_a0 : h draft_a0 = some (.inl (0, n_draft_a0, .inl f_draft_a0))) (i_158 : vp_in (drafted_a0 + x4) n_draft_a0) (k : xw G m_Model_letters F L bc bs pr px 129 [some (.ref a0), some (.long x1), none, some (.int x3), some (.int (x4 + 1)), none] [] (xw_up h draft_a0 (.inl (0, n_draft_a0, .inl (upd f_draft_a0 ((drafted_a0 + x4)).toNatClampNeg ((((x1.toUInt64 >>> ((8 * x4).toInt64.toUInt64 &&& Int64.toUInt64 63)).toInt64) &&& 255).toInt32)))))) : xw G m_Model_letters F L bc bs pr px 135 [some (.ref a0), some (.long x1), none, some (.int x3), some (.int x4), none] [] h := by
  refine x_aload_n d_Model_letters_135 rfl rfl ?_
  refine x_get d_Model_letters_136 f_Model_16 e_a0 g_a0_draft ?_
  refine x_aload_n d_Model_letters_139 rfl rfl ?_
  refine x_get d_Model_letters_140 f_Model_143 e_a0 g_a0_drafted ?_
  refine x_iload d_Model_letters_143 rfl ?_
  refine x_iadd d_Model_letters_145 ?_
  refine x_lload_n d_Model_letters_146 rfl rfl ?_
  refine x_bipush (v := 8) d_Model_letters_147 (by decide) ?_
  refine x_iload d_Model_letters_149 rfl ?_
  refine x_imul d_Model_letters_151 ?_
  refine x_lushr d_Model_letters_152 rfl ?_
  refine x_ldc2 (v := 255) d_Model_letters_153 (by decide +kernel) ?_
  refine x_land d_Model_letters_156 ?_
  refine x_l2i d_Model_letters_157 rfl ?_
  refine x_iast d_Model_letters_158 e_draft_a0 i_158 ?_
  refine x_iinc (v := x4 + 1) d_Model_letters_159 rfl (by rfl) (by decide) rfl ?_
  show xw G m_Model_letters F L bc bs pr px 162 [some (.ref a0), some (.long x1), none, some (.int x3), some (.int (x4 + 1)), none] [] (xw_up h draft_a0 (.inl (0, n_draft_a0, .inl (upd f_draft_a0 ((drafted_a0 + x4)).toNatClampNeg ((((x1.toUInt64 >>> ((8 * x4).toInt64.toUInt64 &&& Int64.toUInt64 63)).toInt64) &&& 255).toInt32)))))
  refine x_goto (tgt := 129) d_Model_letters_162 (by decide) ?_
  exact k
theorem s_Model_letters_165 {G : xw_G} {F L bc bs : Nat} {pr : Option Value → xw_A → Prop} {px : String → xw_A → Prop} {h : xw_A} {a0 : Nat} {x3 : Int32} {fs_a0 : List Value} {drafted_a0 : Int32} (l_a0 : fs_a0.length = 62) (e_a0 : h a0 = some (.inr (11, fs_a0))) (g_a0_drafted : fs_a0[(10 : Nat)]? = some (.int drafted_a0)) (kr : pr (some (.int (drafted_a0 + x3))) (xw_up h a0 (.inr (11, (fs_a0.set 10 (.int (drafted_a0 + x3))))))) : xw G m_Model_letters F L bc bs pr px 165 [some (.ref a0), none, none, some (.int x3), none, none] [] h := by
  refine x_aload_n d_Model_letters_165 rfl rfl ?_
  refine x_dup d_Model_letters_166 rfl ?_
  refine x_get d_Model_letters_167 f_Model_143 e_a0 g_a0_drafted ?_
  refine x_iload_n d_Model_letters_170 rfl rfl ?_
  refine x_iadd d_Model_letters_171 ?_
  refine x_put (ty := .int) d_Model_letters_172 f_Model_143 fw_Model_10.1 fw_Model_10.2 rfl rfl (by simp [l_a0]) e_a0 ?_
  show xw G m_Model_letters F L bc bs pr px 175 [some (.ref a0), none, none, some (.int x3), none, none] [] (xw_up h a0 (.inr (11, (fs_a0.set 10 (.int (drafted_a0 + x3))))))
  refine x_aload_n d_Model_letters_175 rfl rfl ?_
  refine x_get d_Model_letters_176 f_Model_143 (xw_up_s _ _ _) (xw_gs (by simp [l_a0])) ?_
  exact x_iret d_Model_letters_179 rfl kr
theorem s_Model_in_0 {G : xw_G} {F L bc bs : Nat} {pr : Option Value → xw_A → Prop} {px : String → xw_A → Prop} {h : xw_A} {x0 : Int32} {x1 : Int32} {x2 : Int32}  (kt : x0 < x1 → xw G m_Model_in F L bc bs pr px 14 [none, none, none] [] h) (kf : ¬ x0 < x1 → xw G m_Model_in F L bc bs pr px 5 [some (.int x0), none, some (.int x2)] [] h) : xw G m_Model_in F L bc bs pr px 0 [some (.int x0), some (.int x1), some (.int x2)] [] h := by
  refine x_iload_n d_Model_in_0 rfl rfl ?_
  refine x_iload_n d_Model_in_1 rfl rfl ?_
  refine x_icmp_lt (tgt := 14) d_Model_in_2 (by decide) (fun hc => ?_) (fun hc => ?_)
  · exact x_le (lv' := [none, none, none]) (xw_le_n (xw_le_n (xw_le_n xw_le_e))) (kt hc)
  · exact x_le (lv' := [some (.int x0), none, some (.int x2)]) (xw_le_s (xw_le_n (xw_le_s xw_le_e))) (kf hc)
theorem s_Model_in_5 {G : xw_G} {F L bc bs : Nat} {pr : Option Value → xw_A → Prop} {px : String → xw_A → Prop} {h : xw_A} {x0 : Int32} {x2 : Int32}  (kt : x2 < x0 → xw G m_Model_in F L bc bs pr px 14 [none, none, none] [] h) (kf : ¬ x2 < x0 → xw G m_Model_in F L bc bs pr px 10 [none, none, none] [] h) : xw G m_Model_in F L bc bs pr px 5 [some (.int x0), none, some (.int x2)] [] h := by
  refine x_iload_n d_Model_in_5 rfl rfl ?_
  refine x_iload_n d_Model_in_6 rfl rfl ?_
  refine x_icmp_gt (tgt := 14) d_Model_in_7 (by decide) (fun hc => ?_) (fun hc => ?_)
  · exact x_le (lv' := [none, none, none]) (xw_le_n (xw_le_n (xw_le_n xw_le_e))) (kt hc)
  · exact x_le (lv' := [none, none, none]) (xw_le_n (xw_le_n (xw_le_n xw_le_e))) (kf hc)
theorem s_Model_in_10 {G : xw_G} {F L bc bs : Nat} {pr : Option Value → xw_A → Prop} {px : String → xw_A → Prop} {h : xw_A}   (k : xw G m_Model_in F L bc bs pr px 15 [none, none, none] [.int 1] h) : xw G m_Model_in F L bc bs pr px 10 [none, none, none] [] h := by
  refine x_iconst (v := 1) d_Model_in_10 (by decide) ?_
  refine x_goto (tgt := 15) d_Model_in_11 (by decide) ?_
  exact k
theorem s_Model_in_14 {G : xw_G} {F L bc bs : Nat} {pr : Option Value → xw_A → Prop} {px : String → xw_A → Prop} {h : xw_A}   (k : xw G m_Model_in F L bc bs pr px 15 [none, none, none] [.int 0] h) : xw G m_Model_in F L bc bs pr px 14 [none, none, none] [] h := by
  refine x_iconst (v := 0) d_Model_in_14 (by decide) ?_
  exact k
theorem s_Model_in_15 {G : xw_G} {F L bc bs : Nat} {pr : Option Value → xw_A → Prop} {px : String → xw_A → Prop} {h : xw_A} {y0 : Int32} (w_15 : narrow .boolean (.int y0) = .int y0) (kr : pr (some (.int y0)) h) : xw G m_Model_in F L bc bs pr px 15 [none, none, none] [.int y0] h := by
  exact x_zret d_Model_in_15 rfl w_15 kr
theorem s_Model_fails_0 {G : xw_G} {F L bc bs : Nat} {pr : Option Value → xw_A → Prop} {px : String → xw_A → Prop} {h : xw_A} {a0 : Nat} {x1 : Int32} {x2 : Int32}  (kt : x1 = 0 → xw G m_Model_fails F L bc bs pr px 16 [some (.ref a0), none, none] [] h) (kf : ¬ x1 = 0 → xw G m_Model_fails F L bc bs pr px 4 [some (.ref a0), none, some (.int x2)] [] h) : xw G m_Model_fails F L bc bs pr px 0 [some (.ref a0), some (.int x1), some (.int x2)] [] h := by
  refine x_iload_n d_Model_fails_0 rfl rfl ?_
  refine x_if_eq (tgt := 16) d_Model_fails_1 (by decide) (fun hc => ?_) (fun hc => ?_)
  · exact x_le (lv' := [some (.ref a0), none, none]) (xw_le_s (xw_le_n (xw_le_n xw_le_e))) (kt hc)
  · exact x_le (lv' := [some (.ref a0), none, some (.int x2)]) (xw_le_s (xw_le_n (xw_le_s xw_le_e))) (kf hc)
theorem s_Model_fails_4 {G : xw_G} {F L bc bs : Nat} {pr : Option Value → xw_A → Prop} {px : String → xw_A → Prop} {h : xw_A} {a0 : Nat} {x2 : Int32} {fs_a0 : List Value} {err_a0 : Int32} (l_a0 : fs_a0.length = 62) (e_a0 : h a0 = some (.inr (11, fs_a0))) (g_a0_err : fs_a0[(0 : Nat)]? = some (.int err_a0)) (kt : ¬ err_a0 = 0 → xw G m_Model_fails F L bc bs pr px 16 [some (.ref a0), none, none] [] h) (kf : err_a0 = 0 → xw G m_Model_fails F L bc bs pr px 11 [some (.ref a0), none, some (.int x2)] [] h) : xw G m_Model_fails F L bc bs pr px 4 [some (.ref a0), none, some (.int x2)] [] h := by
  refine x_aload_n d_Model_fails_4 rfl rfl ?_
  refine x_get d_Model_fails_5 f_Model_130 e_a0 g_a0_err ?_
  refine x_if_ne (tgt := 16) d_Model_fails_8 (by decide) (fun hc => ?_) (fun hc => ?_)
  · exact x_le (lv' := [some (.ref a0), none, none]) (xw_le_s (xw_le_n (xw_le_n xw_le_e))) (kt hc)
  · exact kf hc
theorem s_Model_fails_11 {G : xw_G} {F L bc bs : Nat} {pr : Option Value → xw_A → Prop} {px : String → xw_A → Prop} {h : xw_A} {a0 : Nat} {x2 : Int32} {fs_a0 : List Value} (l_a0 : fs_a0.length = 62) (e_a0 : h a0 = some (.inr (11, fs_a0))) (k : xw G m_Model_fails F L bc bs pr px 16 [some (.ref a0), none, none] [] (xw_up h a0 (.inr (11, (fs_a0.set 0 (.int x2)))))) : xw G m_Model_fails F L bc bs pr px 11 [some (.ref a0), none, some (.int x2)] [] h := by
  refine x_aload_n d_Model_fails_11 rfl rfl ?_
  refine x_iload_n d_Model_fails_12 rfl rfl ?_
  refine x_put (ty := .int) d_Model_fails_13 f_Model_130 fw_Model_0.1 fw_Model_0.2 rfl rfl (by simp [l_a0]) e_a0 ?_
  show xw G m_Model_fails F L bc bs pr px 16 [some (.ref a0), none, some (.int x2)] [] (xw_up h a0 (.inr (11, (fs_a0.set 0 (.int x2)))))
  exact x_le (lv' := [some (.ref a0), none, none]) (xw_le_s (xw_le_n (xw_le_n xw_le_e))) (k)
theorem s_Model_fails_16 {G : xw_G} {F L bc bs : Nat} {pr : Option Value → xw_A → Prop} {px : String → xw_A → Prop} {h : xw_A} {a0 : Nat} {fs_a0 : List Value} {err_a0 : Int32} (l_a0 : fs_a0.length = 62) (e_a0 : h a0 = some (.inr (11, fs_a0))) (g_a0_err : fs_a0[(0 : Nat)]? = some (.int err_a0)) (kt : err_a0 = 0 → xw G m_Model_fails F L bc bs pr px 27 [none, none, none] [] h) (kf : ¬ err_a0 = 0 → xw G m_Model_fails F L bc bs pr px 23 [none, none, none] [] h) : xw G m_Model_fails F L bc bs pr px 16 [some (.ref a0), none, none] [] h := by
  refine x_aload_n d_Model_fails_16 rfl rfl ?_
  refine x_get d_Model_fails_17 f_Model_130 e_a0 g_a0_err ?_
  refine x_if_eq (tgt := 27) d_Model_fails_20 (by decide) (fun hc => ?_) (fun hc => ?_)
  · exact x_le (lv' := [none, none, none]) (xw_le_n (xw_le_n (xw_le_n xw_le_e))) (kt hc)
  · exact x_le (lv' := [none, none, none]) (xw_le_n (xw_le_n (xw_le_n xw_le_e))) (kf hc)
theorem s_Model_fails_23 {G : xw_G} {F L bc bs : Nat} {pr : Option Value → xw_A → Prop} {px : String → xw_A → Prop} {h : xw_A}   (k : xw G m_Model_fails F L bc bs pr px 28 [none, none, none] [.int 1] h) : xw G m_Model_fails F L bc bs pr px 23 [none, none, none] [] h := by
  refine x_iconst (v := 1) d_Model_fails_23 (by decide) ?_
  refine x_goto (tgt := 28) d_Model_fails_24 (by decide) ?_
  exact k
theorem s_Model_fails_27 {G : xw_G} {F L bc bs : Nat} {pr : Option Value → xw_A → Prop} {px : String → xw_A → Prop} {h : xw_A}   (k : xw G m_Model_fails F L bc bs pr px 28 [none, none, none] [.int 0] h) : xw G m_Model_fails F L bc bs pr px 27 [none, none, none] [] h := by
  refine x_iconst (v := 0) d_Model_fails_27 (by decide) ?_
  exact k
theorem s_Model_fails_28 {G : xw_G} {F L bc bs : Nat} {pr : Option Value → xw_A → Prop} {px : String → xw_A → Prop} {h : xw_A} {y0 : Int32} (w_28 : narrow .boolean (.int y0) = .int y0) (kr : pr (some (.int y0)) h) : xw G m_Model_fails F L bc bs pr px 28 [none, none, none] [.int y0] h := by
  exact x_zret d_Model_fails_28 rfl w_28 kr
theorem s_Model_drop_0 {G : xw_G} {F L bc bs : Nat} {pr : Option Value → xw_A → Prop} {px : String → xw_A → Prop} {h : xw_A} {a0 : Nat} {fs_a0 : List Value} {drafted_a0 : Int32} (l_a0 : fs_a0.length = 62) (e_a0 : h a0 = some (.inr (11, fs_a0))) (g_a0_drafted : fs_a0[(10 : Nat)]? = some (.int drafted_a0)) (kr : pr (some (.int drafted_a0)) (xw_up (xw_up h a0 (.inr (11, (fs_a0.set 0 (.int 0))))) a0 (.inr (11, ((fs_a0.set 0 (.int 0)).set 10 (.int 0)))))) : xw G m_Model_drop F L bc bs pr px 0 [some (.ref a0), none] [] h := by
  refine x_aload_n d_Model_drop_0 rfl rfl ?_
  refine x_iconst (v := 0) d_Model_drop_1 (by decide) ?_
  refine x_put (ty := .int) d_Model_drop_2 f_Model_130 fw_Model_0.1 fw_Model_0.2 rfl rfl (by simp [l_a0]) e_a0 ?_
  show xw G m_Model_drop F L bc bs pr px 5 [some (.ref a0), none] [] (xw_up h a0 (.inr (11, (fs_a0.set 0 (.int 0)))))
  refine x_aload_n d_Model_drop_5 rfl rfl ?_
  refine x_get d_Model_drop_6 f_Model_143 (xw_up_s _ _ _) (xw_gn (by decide) g_a0_drafted) ?_
  refine x_istore_n d_Model_drop_9 rfl (by decide) rfl ?_
  show xw G m_Model_drop F L bc bs pr px 10 [some (.ref a0), some (.int drafted_a0)] [] (xw_up h a0 (.inr (11, (fs_a0.set 0 (.int 0)))))
  refine x_aload_n d_Model_drop_10 rfl rfl ?_
  refine x_iconst (v := 0) d_Model_drop_11 (by decide) ?_
  refine x_put (ty := .int) d_Model_drop_12 f_Model_143 fw_Model_10.1 fw_Model_10.2 rfl rfl (by simp [l_a0]) (xw_up_s _ _ _) ?_
  show xw G m_Model_drop F L bc bs pr px 15 [some (.ref a0), some (.int drafted_a0)] [] (xw_up (xw_up h a0 (.inr (11, (fs_a0.set 0 (.int 0))))) a0 (.inr (11, ((fs_a0.set 0 (.int 0)).set 10 (.int 0)))))
  refine x_iload_n d_Model_drop_15 rfl rfl ?_
  exact x_iret d_Model_drop_16 rfl kr
theorem s_Model_set_0 {G : xw_G} {F L bc bs : Nat} {pr : Option Value → xw_A → Prop} {px : String → xw_A → Prop} {h : xw_A} {a0 : Nat} {x1 : Int32} {fs_a0 : List Value} (l_a0 : fs_a0.length = 62) (e_a0 : h a0 = some (.inr (11, fs_a0))) (k : xw G m_Model_set F L bc bs pr px 9 [some (.ref a0), some (.int x1), none, none] [.int 1, .int 0, .int x1, .ref a0] (xw_up h a0 (.inr (11, (fs_a0.set 0 (.int 0)))))) : xw G m_Model_set F L bc bs pr px 0 [some (.ref a0), some (.int x1), none, none] [] h := by
  refine x_aload_n d_Model_set_0 rfl rfl ?_
  refine x_iconst (v := 0) d_Model_set_1 (by decide) ?_
  refine x_put (ty := .int) d_Model_set_2 f_Model_130 fw_Model_0.1 fw_Model_0.2 rfl rfl (by simp [l_a0]) e_a0 ?_
  show xw G m_Model_set F L bc bs pr px 5 [some (.ref a0), some (.int x1), none, none] [] (xw_up h a0 (.inr (11, (fs_a0.set 0 (.int 0)))))
  refine x_aload_n d_Model_set_5 rfl rfl ?_
  refine x_iload_n d_Model_set_6 rfl rfl ?_
  refine x_iconst (v := 0) d_Model_set_7 (by decide) ?_
  refine x_iconst (v := 1) d_Model_set_8 (by decide) ?_
  exact k
theorem s_Model_set_12 {G : xw_G} {F L bc bs : Nat} {pr : Option Value → xw_A → Prop} {px : String → xw_A → Prop} {h : xw_A} {a0 : Nat} {x1 : Int32} {y0 : Int32}  (kt : ¬ y0 = 0 → xw G m_Model_set F L bc bs pr px 19 [some (.ref a0), some (.int x1), none, none] [.ref a0] h) (kf : y0 = 0 → xw G m_Model_set F L bc bs pr px 15 [some (.ref a0), some (.int x1), none, none] [.ref a0] h) : xw G m_Model_set F L bc bs pr px 12 [some (.ref a0), some (.int x1), none, none] [.int y0, .ref a0] h := by
  refine x_if_ne (tgt := 19) d_Model_set_12 (by decide) (fun hc => ?_) (fun hc => ?_)
  · exact kt hc
  · exact kf hc
theorem s_Model_set_15 {G : xw_G} {F L bc bs : Nat} {pr : Option Value → xw_A → Prop} {px : String → xw_A → Prop} {h : xw_A} {a0 : Nat} {x1 : Int32}  (k : xw G m_Model_set F L bc bs pr px 20 [some (.ref a0), some (.int x1), none, none] [.int 1, .ref a0] h) : xw G m_Model_set F L bc bs pr px 15 [some (.ref a0), some (.int x1), none, none] [.ref a0] h := by
  refine x_iconst (v := 1) d_Model_set_15 (by decide) ?_
  refine x_goto (tgt := 20) d_Model_set_16 (by decide) ?_
  exact k
theorem s_Model_set_19 {G : xw_G} {F L bc bs : Nat} {pr : Option Value → xw_A → Prop} {px : String → xw_A → Prop} {h : xw_A} {a0 : Nat} {x1 : Int32}  (k : xw G m_Model_set F L bc bs pr px 20 [some (.ref a0), some (.int x1), none, none] [.int 0, .ref a0] h) : xw G m_Model_set F L bc bs pr px 19 [some (.ref a0), some (.int x1), none, none] [.ref a0] h := by
  refine x_iconst (v := 0) d_Model_set_19 (by decide) ?_
  exact k
theorem s_Model_set_20 {G : xw_G} {F L bc bs : Nat} {pr : Option Value → xw_A → Prop} {px : String → xw_A → Prop} {h : xw_A} {a0 : Nat} {x1 : Int32} {y0 : Int32}  (k : xw G m_Model_set F L bc bs pr px 21 [some (.ref a0), some (.int x1), none, none] [.int 1, .int y0, .ref a0] h) : xw G m_Model_set F L bc bs pr px 20 [some (.ref a0), some (.int x1), none, none] [.int y0, .ref a0] h := by
  refine x_iconst (v := 1) d_Model_set_20 (by decide) ?_
  exact k
theorem s_Model_set_24 {G : xw_G} {F L bc bs : Nat} {pr : Option Value → xw_A → Prop} {px : String → xw_A → Prop} {h : xw_A} {a0 : Nat} {x1 : Int32} {y0 : Int32}  (kt : ¬ y0 = 0 → xw G m_Model_set F L bc bs pr px 49 [none, none, none, none] [] h) (kf : y0 = 0 → xw G m_Model_set F L bc bs pr px 27 [some (.ref a0), some (.int x1), none, none] [] h) : xw G m_Model_set F L bc bs pr px 24 [some (.ref a0), some (.int x1), none, none] [.int y0] h := by
  refine x_if_ne (tgt := 49) d_Model_set_24 (by decide) (fun hc => ?_) (fun hc => ?_)
  · exact x_le (lv' := [none, none, none, none]) (xw_le_n (xw_le_n (xw_le_n (xw_le_n xw_le_e)))) (kt hc)
  · exact kf hc
theorem s_Model_set_27 {G : xw_G} {F L bc bs : Nat} {pr : Option Value → xw_A → Prop} {px : String → xw_A → Prop} {h : xw_A} {a0 : Nat} {x1 : Int32} {fs_a0 : List Value} {drafted_a0 : Int32} (l_a0 : fs_a0.length = 62) (e_a0 : h a0 = some (.inr (11, fs_a0))) (g_a0_drafted : fs_a0[(10 : Nat)]? = some (.int drafted_a0)) (kt : drafted_a0 ≤ 48 → xw G m_Model_set F L bc bs pr px 41 [some (.ref a0), some (.int x1), none, none] [.ref a0] h) (kf : ¬ drafted_a0 ≤ 48 → xw G m_Model_set F L bc bs pr px 37 [some (.ref a0), some (.int x1), none, none] [.ref a0] h) : xw G m_Model_set F L bc bs pr px 27 [some (.ref a0), some (.int x1), none, none] [] h := by
  refine x_aload_n d_Model_set_27 rfl rfl ?_
  refine x_aload_n d_Model_set_28 rfl rfl ?_
  refine x_get d_Model_set_29 f_Model_143 e_a0 g_a0_drafted ?_
  refine x_bipush (v := 48) d_Model_set_32 (by decide) ?_
  refine x_icmp_le (tgt := 41) d_Model_set_34 (by decide) (fun hc => ?_) (fun hc => ?_)
  · exact kt hc
  · exact kf hc
theorem s_Model_set_37 {G : xw_G} {F L bc bs : Nat} {pr : Option Value → xw_A → Prop} {px : String → xw_A → Prop} {h : xw_A} {a0 : Nat} {x1 : Int32}  (k : xw G m_Model_set F L bc bs pr px 42 [some (.ref a0), some (.int x1), none, none] [.int 1, .ref a0] h) : xw G m_Model_set F L bc bs pr px 37 [some (.ref a0), some (.int x1), none, none] [.ref a0] h := by
  refine x_iconst (v := 1) d_Model_set_37 (by decide) ?_
  refine x_goto (tgt := 42) d_Model_set_38 (by decide) ?_
  exact k
theorem s_Model_set_41 {G : xw_G} {F L bc bs : Nat} {pr : Option Value → xw_A → Prop} {px : String → xw_A → Prop} {h : xw_A} {a0 : Nat} {x1 : Int32}  (k : xw G m_Model_set F L bc bs pr px 42 [some (.ref a0), some (.int x1), none, none] [.int 0, .ref a0] h) : xw G m_Model_set F L bc bs pr px 41 [some (.ref a0), some (.int x1), none, none] [.ref a0] h := by
  refine x_iconst (v := 0) d_Model_set_41 (by decide) ?_
  exact k
theorem s_Model_set_42 {G : xw_G} {F L bc bs : Nat} {pr : Option Value → xw_A → Prop} {px : String → xw_A → Prop} {h : xw_A} {a0 : Nat} {x1 : Int32} {y0 : Int32}  (k : xw G m_Model_set F L bc bs pr px 43 [some (.ref a0), some (.int x1), none, none] [.int 2, .int y0, .ref a0] h) : xw G m_Model_set F L bc bs pr px 42 [some (.ref a0), some (.int x1), none, none] [.int y0, .ref a0] h := by
  refine x_iconst (v := 2) d_Model_set_42 (by decide) ?_
  exact k
theorem s_Model_set_46 {G : xw_G} {F L bc bs : Nat} {pr : Option Value → xw_A → Prop} {px : String → xw_A → Prop} {h : xw_A} {a0 : Nat} {x1 : Int32} {y0 : Int32}  (kt : y0 = 0 → xw G m_Model_set F L bc bs pr px 51 [some (.ref a0), some (.int x1), none, none] [] h) (kf : ¬ y0 = 0 → xw G m_Model_set F L bc bs pr px 49 [none, none, none, none] [] h) : xw G m_Model_set F L bc bs pr px 46 [some (.ref a0), some (.int x1), none, none] [.int y0] h := by
  refine x_if_eq (tgt := 51) d_Model_set_46 (by decide) (fun hc => ?_) (fun hc => ?_)
  · exact kt hc
  · exact x_le (lv' := [none, none, none, none]) (xw_le_n (xw_le_n (xw_le_n (xw_le_n xw_le_e)))) (kf hc)
theorem s_Model_set_49 {G : xw_G} {F L bc bs : Nat} {pr : Option Value → xw_A → Prop} {px : String → xw_A → Prop} {h : xw_A}   (kr : pr (some (.int 0)) h) : xw G m_Model_set F L bc bs pr px 49 [none, none, none, none] [] h := by
  refine x_iconst (v := 0) d_Model_set_49 (by decide) ?_
  exact x_iret d_Model_set_50 rfl kr
theorem s_Model_set_51 {G : xw_G} {F L bc bs : Nat} {pr : Option Value → xw_A → Prop} {px : String → xw_A → Prop} {h : xw_A} {a0 : Nat} {x1 : Int32}  (k : xw G m_Model_set F L bc bs pr px 53 [some (.ref a0), some (.int x1), some (.int 0), none] [] h) : xw G m_Model_set F L bc bs pr px 51 [some (.ref a0), some (.int x1), none, none] [] h := by
  refine x_iconst (v := 0) d_Model_set_51 (by decide) ?_
  refine x_istore_n d_Model_set_52 rfl (by decide) rfl ?_
  show xw G m_Model_set F L bc bs pr px 53 [some (.ref a0), some (.int x1), some (.int 0), none] [] h
  exact k
theorem s_Model_set_53 {G : xw_G} {F L bc bs : Nat} {pr : Option Value → xw_A → Prop} {px : String → xw_A → Prop} {h : xw_A} {a0 : Nat} {x1 : Int32} {x2 : Int32} {fs_a0 : List Value} {drafted_a0 : Int32} (l_a0 : fs_a0.length = 62) (e_a0 : h a0 = some (.inr (11, fs_a0))) (g_a0_drafted : fs_a0[(10 : Nat)]? = some (.int drafted_a0)) (kt : drafted_a0 ≤ x2 → xw G m_Model_set F L bc bs pr px 84 [some (.ref a0), some (.int x1), none, none] [] h) (kf : ¬ drafted_a0 ≤ x2 → xw G m_Model_set F L bc bs pr px 61 [some (.ref a0), some (.int x1), some (.int x2), none] [] h) : xw G m_Model_set F L bc bs pr px 53 [some (.ref a0), some (.int x1), some (.int x2), none] [] h := by
  refine x_iload_n d_Model_set_53 rfl rfl ?_
  refine x_aload_n d_Model_set_54 rfl rfl ?_
  refine x_get d_Model_set_55 f_Model_143 e_a0 g_a0_drafted ?_
  refine x_icmp_ge (tgt := 84) d_Model_set_58 (by decide) (fun hc => ?_) (fun hc => ?_)
  · exact x_le (lv' := [some (.ref a0), some (.int x1), none, none]) (xw_le_s (xw_le_s (xw_le_n (xw_le_n xw_le_e)))) (kt hc)
  · exact kf hc
theorem s_Model_set_61 {G : xw_G} {F L bc bs : Nat} {pr : Option Value → xw_A → Prop} {px : String → xw_A → Prop} {h : xw_A} {a0 : Nat} {x1 : Int32} {x2 : Int32} {fs_a0 : List Value} {prepared_a0 : Nat} {draft_a0 : Nat} {n_draft_a0 : Nat} {f_draft_a0 : Nat → Int32} {n_prepared_a0 : Nat} {f_prepared_a0 : Nat → Int32} (l_a0 : fs_a0.length = 62) (e_a0 : h a0 = some (.inr (11, fs_a0))) (g_a0_prepared : fs_a0[(5 : Nat)]? = some (.ref prepared_a0)) (g_a0_draft : fs_a0[(3 : Nat)]? = some (.ref draft_a0)) (e_draft_a0 : h draft_a0 = some (.inl (0, n_draft_a0, .inl f_draft_a0))) (i_76 : vp_in x2 n_draft_a0) (e_prepared_a0 : h prepared_a0 = some (.inl (0, n_prepared_a0, .inl f_prepared_a0))) (i_77 : vp_in ((48 * x1) + x2) n_prepared_a0) (k : xw G m_Model_set F L bc bs pr px 53 [some (.ref a0), some (.int x1), some (.int (x2 + 1)), none] [] (xw_up h prepared_a0 (.inl (0, n_prepared_a0, .inl (upd f_prepared_a0 (((48 * x1) + x2)).toNatClampNeg (f_draft_a0 x2.toNatClampNeg)))))) : xw G m_Model_set F L bc bs pr px 61 [some (.ref a0), some (.int x1), some (.int x2), none] [] h := by
  refine x_aload_n d_Model_set_61 rfl rfl ?_
  refine x_get d_Model_set_62 f_Model_23 e_a0 g_a0_prepared ?_
  refine x_bipush (v := 48) d_Model_set_65 (by decide) ?_
  refine x_iload_n d_Model_set_67 rfl rfl ?_
  refine x_imul d_Model_set_68 ?_
  refine x_iload_n d_Model_set_69 rfl rfl ?_
  refine x_iadd d_Model_set_70 ?_
  refine x_aload_n d_Model_set_71 rfl rfl ?_
  refine x_get d_Model_set_72 f_Model_16 e_a0 g_a0_draft ?_
  refine x_iload_n d_Model_set_75 rfl rfl ?_
  refine x_iald d_Model_set_76 e_draft_a0 i_76 ?_
  refine x_iast d_Model_set_77 e_prepared_a0 i_77 ?_
  refine x_iinc (v := x2 + 1) d_Model_set_78 rfl (by rfl) (by decide) rfl ?_
  show xw G m_Model_set F L bc bs pr px 81 [some (.ref a0), some (.int x1), some (.int (x2 + 1)), none] [] (xw_up h prepared_a0 (.inl (0, n_prepared_a0, .inl (upd f_prepared_a0 (((48 * x1) + x2)).toNatClampNeg (f_draft_a0 x2.toNatClampNeg)))))
  refine x_goto (tgt := 53) d_Model_set_81 (by decide) ?_
  exact k
theorem s_Model_set_84 {G : xw_G} {F L bc bs : Nat} {pr : Option Value → xw_A → Prop} {px : String → xw_A → Prop} {h : xw_A} {a0 : Nat} {x1 : Int32} {fs_a0 : List Value} {preparedSize_a0 : Nat} {drafted_a0 : Int32} {n_preparedSize_a0 : Nat} {f_preparedSize_a0 : Nat → Int32} (l_a0 : fs_a0.length = 62) (e_a0 : h a0 = some (.inr (11, fs_a0))) (g_a0_preparedSize : fs_a0[(6 : Nat)]? = some (.ref preparedSize_a0)) (g_a0_drafted : fs_a0[(10 : Nat)]? = some (.int drafted_a0)) (e_preparedSize_a0 : h preparedSize_a0 = some (.inl (0, n_preparedSize_a0, .inl f_preparedSize_a0))) (i_93 : vp_in x1 n_preparedSize_a0) (k : xw G m_Model_set F L bc bs pr px 98 [some (.ref a0), none, some (.int 0), some (.int 0)] [] (xw_up h preparedSize_a0 (.inl (0, n_preparedSize_a0, .inl (upd f_preparedSize_a0 (x1).toNatClampNeg drafted_a0))))) : xw G m_Model_set F L bc bs pr px 84 [some (.ref a0), some (.int x1), none, none] [] h := by
  refine x_aload_n d_Model_set_84 rfl rfl ?_
  refine x_get d_Model_set_85 f_Model_26 e_a0 g_a0_preparedSize ?_
  refine x_iload_n d_Model_set_88 rfl rfl ?_
  refine x_aload_n d_Model_set_89 rfl rfl ?_
  refine x_get d_Model_set_90 f_Model_143 e_a0 g_a0_drafted ?_
  refine x_iast d_Model_set_93 e_preparedSize_a0 i_93 ?_
  refine x_iconst (v := 0) d_Model_set_94 (by decide) ?_
  refine x_istore_n d_Model_set_95 rfl (by decide) rfl ?_
  show xw G m_Model_set F L bc bs pr px 96 [some (.ref a0), some (.int x1), some (.int 0), none] [] (xw_up h preparedSize_a0 (.inl (0, n_preparedSize_a0, .inl (upd f_preparedSize_a0 (x1).toNatClampNeg drafted_a0))))
  refine x_iconst (v := 0) d_Model_set_96 (by decide) ?_
  refine x_istore_n d_Model_set_97 rfl (by decide) rfl ?_
  show xw G m_Model_set F L bc bs pr px 98 [some (.ref a0), some (.int x1), some (.int 0), some (.int 0)] [] (xw_up h preparedSize_a0 (.inl (0, n_preparedSize_a0, .inl (upd f_preparedSize_a0 (x1).toNatClampNeg drafted_a0))))
  exact x_le (lv' := [some (.ref a0), none, some (.int 0), some (.int 0)]) (xw_le_s (xw_le_n (xw_le_s (xw_le_s xw_le_e)))) (k)
theorem s_Model_set_98 {G : xw_G} {F L bc bs : Nat} {pr : Option Value → xw_A → Prop} {px : String → xw_A → Prop} {h : xw_A} {a0 : Nat} {x2 : Int32} {x3 : Int32} {fs_a0 : List Value} {drafted_a0 : Int32} (l_a0 : fs_a0.length = 62) (e_a0 : h a0 = some (.inr (11, fs_a0))) (g_a0_drafted : fs_a0[(10 : Nat)]? = some (.int drafted_a0)) (kt : drafted_a0 ≤ x3 → xw G m_Model_set F L bc bs pr px 145 [some (.ref a0), none, some (.int x2), none] [] h) (kf : ¬ drafted_a0 ≤ x3 → xw G m_Model_set F L bc bs pr px 106 [some (.ref a0), none, some (.int x2), some (.int x3)] [] h) : xw G m_Model_set F L bc bs pr px 98 [some (.ref a0), none, some (.int x2), some (.int x3)] [] h := by
  refine x_iload_n d_Model_set_98 rfl rfl ?_
  refine x_aload_n d_Model_set_99 rfl rfl ?_
  refine x_get d_Model_set_100 f_Model_143 e_a0 g_a0_drafted ?_
  refine x_icmp_ge (tgt := 145) d_Model_set_103 (by decide) (fun hc => ?_) (fun hc => ?_)
  · exact x_le (lv' := [some (.ref a0), none, some (.int x2), none]) (xw_le_s (xw_le_n (xw_le_s (xw_le_n xw_le_e)))) (kt hc)
  · exact kf hc
theorem s_Model_set_106 {G : xw_G} {F L bc bs : Nat} {pr : Option Value → xw_A → Prop} {px : String → xw_A → Prop} {h : xw_A} {a0 : Nat} {x2 : Int32} {x3 : Int32} {fs_a0 : List Value} {draft_a0 : Nat} {n_draft_a0 : Nat} {f_draft_a0 : Nat → Int32} (l_a0 : fs_a0.length = 62) (e_a0 : h a0 = some (.inr (11, fs_a0))) (g_a0_draft : fs_a0[(3 : Nat)]? = some (.ref draft_a0)) (e_draft_a0 : h draft_a0 = some (.inl (0, n_draft_a0, .inl f_draft_a0))) (i_111 : vp_in x3 n_draft_a0) (k : xw G m_Model_set F L bc bs pr px 112 [some (.ref a0), none, some (.int x2), some (.int x3)] [.int (f_draft_a0 x3.toNatClampNeg)] h) : xw G m_Model_set F L bc bs pr px 106 [some (.ref a0), none, some (.int x2), some (.int x3)] [] h := by
  refine x_aload_n d_Model_set_106 rfl rfl ?_
  refine x_get d_Model_set_107 f_Model_16 e_a0 g_a0_draft ?_
  refine x_iload_n d_Model_set_110 rfl rfl ?_
  refine x_iald d_Model_set_111 e_draft_a0 i_111 ?_
  exact k
theorem s_Model_set_115 {G : xw_G} {F L bc bs : Nat} {pr : Option Value → xw_A → Prop} {px : String → xw_A → Prop} {h : xw_A} {a0 : Nat} {x2 : Int32} {x3 : Int32} {y0 : Int32}  (kt : y0 = 0 → xw G m_Model_set F L bc bs pr px 139 [some (.ref a0), none, some (.int x2), some (.int x3)] [] h) (kf : ¬ y0 = 0 → xw G m_Model_set F L bc bs pr px 118 [some (.ref a0), none, some (.int x2), some (.int x3)] [] h) : xw G m_Model_set F L bc bs pr px 115 [some (.ref a0), none, some (.int x2), some (.int x3)] [.int y0] h := by
  refine x_if_eq (tgt := 139) d_Model_set_115 (by decide) (fun hc => ?_) (fun hc => ?_)
  · exact kt hc
  · exact kf hc
theorem s_Model_set_118 {G : xw_G} {F L bc bs : Nat} {pr : Option Value → xw_A → Prop} {px : String → xw_A → Prop} {h : xw_A} {a0 : Nat} {x2 : Int32} {x3 : Int32}  (kt : x3 = 0 → xw G m_Model_set F L bc bs pr px 136 [some (.ref a0), none, some (.int x2), some (.int x3)] [] h) (kf : ¬ x3 = 0 → xw G m_Model_set F L bc bs pr px 122 [some (.ref a0), none, some (.int x2), some (.int x3)] [] h) : xw G m_Model_set F L bc bs pr px 118 [some (.ref a0), none, some (.int x2), some (.int x3)] [] h := by
  refine x_iload_n d_Model_set_118 rfl rfl ?_
  refine x_if_eq (tgt := 136) d_Model_set_119 (by decide) (fun hc => ?_) (fun hc => ?_)
  · exact kt hc
  · exact kf hc
theorem s_Model_set_122 {G : xw_G} {F L bc bs : Nat} {pr : Option Value → xw_A → Prop} {px : String → xw_A → Prop} {h : xw_A} {a0 : Nat} {x2 : Int32} {x3 : Int32} {fs_a0 : List Value} {draft_a0 : Nat} {n_draft_a0 : Nat} {f_draft_a0 : Nat → Int32} (l_a0 : fs_a0.length = 62) (e_a0 : h a0 = some (.inr (11, fs_a0))) (g_a0_draft : fs_a0[(3 : Nat)]? = some (.ref draft_a0)) (e_draft_a0 : h draft_a0 = some (.inl (0, n_draft_a0, .inl f_draft_a0))) (i_129 : vp_in (x3 - 1) n_draft_a0) (k : xw G m_Model_set F L bc bs pr px 130 [some (.ref a0), none, some (.int x2), some (.int x3)] [.int (f_draft_a0 (x3 - 1).toNatClampNeg)] h) : xw G m_Model_set F L bc bs pr px 122 [some (.ref a0), none, some (.int x2), some (.int x3)] [] h := by
  refine x_aload_n d_Model_set_122 rfl rfl ?_
  refine x_get d_Model_set_123 f_Model_16 e_a0 g_a0_draft ?_
  refine x_iload_n d_Model_set_126 rfl rfl ?_
  refine x_iconst (v := 1) d_Model_set_127 (by decide) ?_
  refine x_isub d_Model_set_128 ?_
  refine x_iald d_Model_set_129 e_draft_a0 i_129 ?_
  exact k
theorem s_Model_set_133 {G : xw_G} {F L bc bs : Nat} {pr : Option Value → xw_A → Prop} {px : String → xw_A → Prop} {h : xw_A} {a0 : Nat} {x2 : Int32} {x3 : Int32} {y0 : Int32}  (kt : ¬ y0 = 0 → xw G m_Model_set F L bc bs pr px 139 [some (.ref a0), none, some (.int x2), some (.int x3)] [] h) (kf : y0 = 0 → xw G m_Model_set F L bc bs pr px 136 [some (.ref a0), none, some (.int x2), some (.int x3)] [] h) : xw G m_Model_set F L bc bs pr px 133 [some (.ref a0), none, some (.int x2), some (.int x3)] [.int y0] h := by
  refine x_if_ne (tgt := 139) d_Model_set_133 (by decide) (fun hc => ?_) (fun hc => ?_)
  · exact kt hc
  · exact kf hc
theorem s_Model_set_136 {G : xw_G} {F L bc bs : Nat} {pr : Option Value → xw_A → Prop} {px : String → xw_A → Prop} {h : xw_A} {a0 : Nat} {x2 : Int32} {x3 : Int32}  (k : xw G m_Model_set F L bc bs pr px 139 [some (.ref a0), none, some (.int (x2 + 1)), some (.int x3)] [] h) : xw G m_Model_set F L bc bs pr px 136 [some (.ref a0), none, some (.int x2), some (.int x3)] [] h := by
  refine x_iinc (v := x2 + 1) d_Model_set_136 rfl (by rfl) (by decide) trivial ?_
  show xw G m_Model_set F L bc bs pr px 139 [some (.ref a0), none, some (.int (x2 + 1)), some (.int x3)] [] h
  exact k
theorem s_Model_set_139 {G : xw_G} {F L bc bs : Nat} {pr : Option Value → xw_A → Prop} {px : String → xw_A → Prop} {h : xw_A} {a0 : Nat} {x2 : Int32} {x3 : Int32}  (k : xw G m_Model_set F L bc bs pr px 98 [some (.ref a0), none, some (.int x2), some (.int (x3 + 1))] [] h) : xw G m_Model_set F L bc bs pr px 139 [some (.ref a0), none, some (.int x2), some (.int x3)] [] h := by
  refine x_iinc (v := x3 + 1) d_Model_set_139 rfl (by rfl) (by decide) rfl ?_
  show xw G m_Model_set F L bc bs pr px 142 [some (.ref a0), none, some (.int x2), some (.int (x3 + 1))] [] h
  refine x_goto (tgt := 98) d_Model_set_142 (by decide) ?_
  exact k
theorem s_Model_set_145 {G : xw_G} {F L bc bs : Nat} {pr : Option Value → xw_A → Prop} {px : String → xw_A → Prop} {h : xw_A} {a0 : Nat} {x2 : Int32} {fs_a0 : List Value} (l_a0 : fs_a0.length = 62) (e_a0 : h a0 = some (.inr (11, fs_a0))) (kr : pr (some (.int x2)) (xw_up h a0 (.inr (11, (fs_a0.set 10 (.int 0)))))) : xw G m_Model_set F L bc bs pr px 145 [some (.ref a0), none, some (.int x2), none] [] h := by
  refine x_aload_n d_Model_set_145 rfl rfl ?_
  refine x_iconst (v := 0) d_Model_set_146 (by decide) ?_
  refine x_put (ty := .int) d_Model_set_147 f_Model_143 fw_Model_10.1 fw_Model_10.2 rfl rfl (by simp [l_a0]) e_a0 ?_
  show xw G m_Model_set F L bc bs pr px 150 [some (.ref a0), none, some (.int x2), none] [] (xw_up h a0 (.inr (11, (fs_a0.set 10 (.int 0)))))
  refine x_iload_n d_Model_set_150 rfl rfl ?_
  exact x_iret d_Model_set_151 rfl kr
theorem s_Model_isSign_0 {G : xw_G} {F L bc bs : Nat} {pr : Option Value → xw_A → Prop} {px : String → xw_A → Prop} {h : xw_A} {x0 : Int32}  (k : xw G m_Model_isSign F L bc bs pr px 5 [some (.int x0)] [.int 122, .int 97, .int x0] h) : xw G m_Model_isSign F L bc bs pr px 0 [some (.int x0)] [] h := by
  refine x_iload_n d_Model_isSign_0 rfl rfl ?_
  refine x_bipush (v := 97) d_Model_isSign_1 (by decide) ?_
  refine x_bipush (v := 122) d_Model_isSign_3 (by decide) ?_
  exact k
theorem s_Model_isSign_8 {G : xw_G} {F L bc bs : Nat} {pr : Option Value → xw_A → Prop} {px : String → xw_A → Prop} {h : xw_A} {x0 : Int32} {y0 : Int32}  (kt : ¬ y0 = 0 → xw G m_Model_isSign F L bc bs pr px 33 [none] [] h) (kf : y0 = 0 → xw G m_Model_isSign F L bc bs pr px 11 [some (.int x0)] [] h) : xw G m_Model_isSign F L bc bs pr px 8 [some (.int x0)] [.int y0] h := by
  refine x_if_ne (tgt := 33) d_Model_isSign_8 (by decide) (fun hc => ?_) (fun hc => ?_)
  · exact x_le (lv' := [none]) (xw_le_n xw_le_e) (kt hc)
  · exact kf hc
theorem s_Model_isSign_11 {G : xw_G} {F L bc bs : Nat} {pr : Option Value → xw_A → Prop} {px : String → xw_A → Prop} {h : xw_A} {x0 : Int32}  (k : xw G m_Model_isSign F L bc bs pr px 16 [some (.int x0)] [.int 90, .int 65, .int x0] h) : xw G m_Model_isSign F L bc bs pr px 11 [some (.int x0)] [] h := by
  refine x_iload_n d_Model_isSign_11 rfl rfl ?_
  refine x_bipush (v := 65) d_Model_isSign_12 (by decide) ?_
  refine x_bipush (v := 90) d_Model_isSign_14 (by decide) ?_
  exact k
theorem s_Model_isSign_19 {G : xw_G} {F L bc bs : Nat} {pr : Option Value → xw_A → Prop} {px : String → xw_A → Prop} {h : xw_A} {x0 : Int32} {y0 : Int32}  (kt : ¬ y0 = 0 → xw G m_Model_isSign F L bc bs pr px 33 [none] [] h) (kf : y0 = 0 → xw G m_Model_isSign F L bc bs pr px 22 [some (.int x0)] [] h) : xw G m_Model_isSign F L bc bs pr px 19 [some (.int x0)] [.int y0] h := by
  refine x_if_ne (tgt := 33) d_Model_isSign_19 (by decide) (fun hc => ?_) (fun hc => ?_)
  · exact x_le (lv' := [none]) (xw_le_n xw_le_e) (kt hc)
  · exact kf hc
theorem s_Model_isSign_22 {G : xw_G} {F L bc bs : Nat} {pr : Option Value → xw_A → Prop} {px : String → xw_A → Prop} {h : xw_A} {x0 : Int32}  (k : xw G m_Model_isSign F L bc bs pr px 27 [some (.int x0)] [.int 57, .int 48, .int x0] h) : xw G m_Model_isSign F L bc bs pr px 22 [some (.int x0)] [] h := by
  refine x_iload_n d_Model_isSign_22 rfl rfl ?_
  refine x_bipush (v := 48) d_Model_isSign_23 (by decide) ?_
  refine x_bipush (v := 57) d_Model_isSign_25 (by decide) ?_
  exact k
theorem s_Model_isSign_30 {G : xw_G} {F L bc bs : Nat} {pr : Option Value → xw_A → Prop} {px : String → xw_A → Prop} {h : xw_A} {y0 : Int32}  (kt : y0 = 0 → xw G m_Model_isSign F L bc bs pr px 37 [none] [] h) (kf : ¬ y0 = 0 → xw G m_Model_isSign F L bc bs pr px 33 [none] [] h) : xw G m_Model_isSign F L bc bs pr px 30 [none] [.int y0] h := by
  refine x_if_eq (tgt := 37) d_Model_isSign_30 (by decide) (fun hc => ?_) (fun hc => ?_)
  · exact kt hc
  · exact kf hc
theorem s_Model_isSign_33 {G : xw_G} {F L bc bs : Nat} {pr : Option Value → xw_A → Prop} {px : String → xw_A → Prop} {h : xw_A}   (k : xw G m_Model_isSign F L bc bs pr px 38 [none] [.int 1] h) : xw G m_Model_isSign F L bc bs pr px 33 [none] [] h := by
  refine x_iconst (v := 1) d_Model_isSign_33 (by decide) ?_
  refine x_goto (tgt := 38) d_Model_isSign_34 (by decide) ?_
  exact k
theorem s_Model_isSign_37 {G : xw_G} {F L bc bs : Nat} {pr : Option Value → xw_A → Prop} {px : String → xw_A → Prop} {h : xw_A}   (k : xw G m_Model_isSign F L bc bs pr px 38 [none] [.int 0] h) : xw G m_Model_isSign F L bc bs pr px 37 [none] [] h := by
  refine x_iconst (v := 0) d_Model_isSign_37 (by decide) ?_
  exact k
theorem s_Model_isSign_38 {G : xw_G} {F L bc bs : Nat} {pr : Option Value → xw_A → Prop} {px : String → xw_A → Prop} {h : xw_A} {y0 : Int32} (w_38 : narrow .boolean (.int y0) = .int y0) (kr : pr (some (.int y0)) h) : xw G m_Model_isSign F L bc bs pr px 38 [none] [.int y0] h := by
  exact x_zret d_Model_isSign_38 rfl w_38 kr
theorem s_Model_insert_0 {G : xw_G} {F L bc bs : Nat} {pr : Option Value → xw_A → Prop} {px : String → xw_A → Prop} {h : xw_A} {a0 : Nat} {fs_a0 : List Value} (l_a0 : fs_a0.length = 62) (e_a0 : h a0 = some (.inr (11, fs_a0))) (k : xw G m_Model_insert F L bc bs pr px 7 [some (.ref a0), some (.int 0)] [] (xw_up h a0 (.inr (11, (fs_a0.set 0 (.int 0)))))) : xw G m_Model_insert F L bc bs pr px 0 [some (.ref a0), none] [] h := by
  refine x_aload_n d_Model_insert_0 rfl rfl ?_
  refine x_iconst (v := 0) d_Model_insert_1 (by decide) ?_
  refine x_put (ty := .int) d_Model_insert_2 f_Model_130 fw_Model_0.1 fw_Model_0.2 rfl rfl (by simp [l_a0]) e_a0 ?_
  show xw G m_Model_insert F L bc bs pr px 5 [some (.ref a0), none] [] (xw_up h a0 (.inr (11, (fs_a0.set 0 (.int 0)))))
  refine x_iconst (v := 0) d_Model_insert_5 (by decide) ?_
  refine x_istore_n d_Model_insert_6 rfl (by decide) rfl ?_
  show xw G m_Model_insert F L bc bs pr px 7 [some (.ref a0), some (.int 0)] [] (xw_up h a0 (.inr (11, (fs_a0.set 0 (.int 0)))))
  exact k
theorem s_Model_insert_7 {G : xw_G} {F L bc bs : Nat} {pr : Option Value → xw_A → Prop} {px : String → xw_A → Prop} {h : xw_A} {a0 : Nat} {x1 : Int32}  (kt : 24 ≤ x1 → xw G m_Model_insert F L bc bs pr px 28 [some (.ref a0), some (.int x1)] [] h) (kf : ¬ 24 ≤ x1 → xw G m_Model_insert F L bc bs pr px 13 [some (.ref a0), some (.int x1)] [] h) : xw G m_Model_insert F L bc bs pr px 7 [some (.ref a0), some (.int x1)] [] h := by
  refine x_iload_n d_Model_insert_7 rfl rfl ?_
  refine x_bipush (v := 24) d_Model_insert_8 (by decide) ?_
  refine x_icmp_ge (tgt := 28) d_Model_insert_10 (by decide) (fun hc => ?_) (fun hc => ?_)
  · exact kt hc
  · exact kf hc
theorem s_Model_insert_13 {G : xw_G} {F L bc bs : Nat} {pr : Option Value → xw_A → Prop} {px : String → xw_A → Prop} {h : xw_A} {a0 : Nat} {x1 : Int32} {fs_a0 : List Value} {live_a0 : Nat} {n_live_a0 : Nat} {f_live_a0 : Nat → Int32} (l_a0 : fs_a0.length = 62) (e_a0 : h a0 = some (.inr (11, fs_a0))) (g_a0_live : fs_a0[(14 : Nat)]? = some (.ref live_a0)) (e_live_a0 : h live_a0 = some (.inl (0, n_live_a0, .inl f_live_a0))) (i_18 : vp_in x1 n_live_a0) (kt : (f_live_a0 x1.toNatClampNeg) < 0 → xw G m_Model_insert F L bc bs pr px 28 [some (.ref a0), some (.int x1)] [] h) (kf : ¬ (f_live_a0 x1.toNatClampNeg) < 0 → xw G m_Model_insert F L bc bs pr px 22 [some (.ref a0), some (.int x1)] [] h) : xw G m_Model_insert F L bc bs pr px 13 [some (.ref a0), some (.int x1)] [] h := by
  refine x_aload_n d_Model_insert_13 rfl rfl ?_
  refine x_get d_Model_insert_14 f_Model_44 e_a0 g_a0_live ?_
  refine x_iload_n d_Model_insert_17 rfl rfl ?_
  refine x_iald d_Model_insert_18 e_live_a0 i_18 ?_
  refine x_if_lt (tgt := 28) d_Model_insert_19 (by decide) (fun hc => ?_) (fun hc => ?_)
  · exact kt hc
  · exact kf hc
theorem s_Model_insert_22 {G : xw_G} {F L bc bs : Nat} {pr : Option Value → xw_A → Prop} {px : String → xw_A → Prop} {h : xw_A} {a0 : Nat} {x1 : Int32}  (k : xw G m_Model_insert F L bc bs pr px 7 [some (.ref a0), some (.int (x1 + 1))] [] h) : xw G m_Model_insert F L bc bs pr px 22 [some (.ref a0), some (.int x1)] [] h := by
  refine x_iinc (v := x1 + 1) d_Model_insert_22 rfl (by rfl) (by decide) rfl ?_
  show xw G m_Model_insert F L bc bs pr px 25 [some (.ref a0), some (.int (x1 + 1))] [] h
  refine x_goto (tgt := 7) d_Model_insert_25 (by decide) ?_
  exact k
theorem s_Model_insert_28 {G : xw_G} {F L bc bs : Nat} {pr : Option Value → xw_A → Prop} {px : String → xw_A → Prop} {h : xw_A} {a0 : Nat} {x1 : Int32}  (kt : ¬ x1 = 24 → xw G m_Model_insert F L bc bs pr px 39 [some (.ref a0), some (.int x1)] [.ref a0] h) (kf : x1 = 24 → xw G m_Model_insert F L bc bs pr px 35 [some (.ref a0), some (.int x1)] [.ref a0] h) : xw G m_Model_insert F L bc bs pr px 28 [some (.ref a0), some (.int x1)] [] h := by
  refine x_aload_n d_Model_insert_28 rfl rfl ?_
  refine x_iload_n d_Model_insert_29 rfl rfl ?_
  refine x_bipush (v := 24) d_Model_insert_30 (by decide) ?_
  refine x_icmp_ne (tgt := 39) d_Model_insert_32 (by decide) (fun hc => ?_) (fun hc => ?_)
  · exact kt hc
  · exact kf hc
theorem s_Model_insert_35 {G : xw_G} {F L bc bs : Nat} {pr : Option Value → xw_A → Prop} {px : String → xw_A → Prop} {h : xw_A} {a0 : Nat} {x1 : Int32}  (k : xw G m_Model_insert F L bc bs pr px 40 [some (.ref a0), some (.int x1)] [.int 1, .ref a0] h) : xw G m_Model_insert F L bc bs pr px 35 [some (.ref a0), some (.int x1)] [.ref a0] h := by
  refine x_iconst (v := 1) d_Model_insert_35 (by decide) ?_
  refine x_goto (tgt := 40) d_Model_insert_36 (by decide) ?_
  exact k
theorem s_Model_insert_39 {G : xw_G} {F L bc bs : Nat} {pr : Option Value → xw_A → Prop} {px : String → xw_A → Prop} {h : xw_A} {a0 : Nat} {x1 : Int32}  (k : xw G m_Model_insert F L bc bs pr px 40 [some (.ref a0), some (.int x1)] [.int 0, .ref a0] h) : xw G m_Model_insert F L bc bs pr px 39 [some (.ref a0), some (.int x1)] [.ref a0] h := by
  refine x_iconst (v := 0) d_Model_insert_39 (by decide) ?_
  exact k
theorem s_Model_insert_40 {G : xw_G} {F L bc bs : Nat} {pr : Option Value → xw_A → Prop} {px : String → xw_A → Prop} {h : xw_A} {a0 : Nat} {x1 : Int32} {y0 : Int32}  (k : xw G m_Model_insert F L bc bs pr px 41 [some (.ref a0), some (.int x1)] [.int 1, .int y0, .ref a0] h) : xw G m_Model_insert F L bc bs pr px 40 [some (.ref a0), some (.int x1)] [.int y0, .ref a0] h := by
  refine x_iconst (v := 1) d_Model_insert_40 (by decide) ?_
  exact k
theorem s_Model_insert_44 {G : xw_G} {F L bc bs : Nat} {pr : Option Value → xw_A → Prop} {px : String → xw_A → Prop} {h : xw_A} {a0 : Nat} {x1 : Int32} {y0 : Int32}  (kt : y0 = 0 → xw G m_Model_insert F L bc bs pr px 49 [some (.ref a0), some (.int x1)] [] h) (kf : ¬ y0 = 0 → xw G m_Model_insert F L bc bs pr px 47 [none, none] [] h) : xw G m_Model_insert F L bc bs pr px 44 [some (.ref a0), some (.int x1)] [.int y0] h := by
  refine x_if_eq (tgt := 49) d_Model_insert_44 (by decide) (fun hc => ?_) (fun hc => ?_)
  · exact kt hc
  · exact x_le (lv' := [none, none]) (xw_le_n (xw_le_n xw_le_e)) (kf hc)
theorem s_Model_insert_47 {G : xw_G} {F L bc bs : Nat} {pr : Option Value → xw_A → Prop} {px : String → xw_A → Prop} {h : xw_A}   (kr : pr (some (.int 0)) h) : xw G m_Model_insert F L bc bs pr px 47 [none, none] [] h := by
  refine x_iconst (v := 0) d_Model_insert_47 (by decide) ?_
  exact x_iret d_Model_insert_48 rfl kr
theorem s_Model_insert_49 {G : xw_G} {F L bc bs : Nat} {pr : Option Value → xw_A → Prop} {px : String → xw_A → Prop} {h : xw_A} {a0 : Nat} {x1 : Int32}  (k : xw G m_Model_insert F L bc bs pr px 51 [some (.ref a0), some (.int x1)] [.int x1, .ref a0] h) : xw G m_Model_insert F L bc bs pr px 49 [some (.ref a0), some (.int x1)] [] h := by
  refine x_aload_n d_Model_insert_49 rfl rfl ?_
  refine x_iload_n d_Model_insert_50 rfl rfl ?_
  exact k
theorem s_Model_insert_54 {G : xw_G} {F L bc bs : Nat} {pr : Option Value → xw_A → Prop} {px : String → xw_A → Prop} {h : xw_A} {x1 : Int32} {y0 : Int32}  (kr : pr (some (.int (x1 + 1))) h) : xw G m_Model_insert F L bc bs pr px 54 [none, some (.int x1)] [.int y0] h := by
  refine x_pop d_Model_insert_54 rfl ?_
  refine x_iload_n d_Model_insert_55 rfl rfl ?_
  refine x_iconst (v := 1) d_Model_insert_56 (by decide) ?_
  refine x_iadd d_Model_insert_57 ?_
  exact x_iret d_Model_insert_58 rfl kr
theorem s_Model_gets_0 {G : xw_G} {F L bc bs : Nat} {pr : Option Value → xw_A → Prop} {px : String → xw_A → Prop} {h : xw_A} {a0 : Nat} {x1 : Int32}  (k : xw G m_Model_gets F L bc bs pr px 2 [some (.ref a0), some (.int x1), some (.int 0), none] [] h) : xw G m_Model_gets F L bc bs pr px 0 [some (.ref a0), some (.int x1), none, none] [] h := by
  refine x_iconst (v := 0) d_Model_gets_0 (by decide) ?_
  refine x_istore_n d_Model_gets_1 rfl (by decide) rfl ?_
  show xw G m_Model_gets F L bc bs pr px 2 [some (.ref a0), some (.int x1), some (.int 0), none] [] h
  exact k
theorem s_Model_gets_2 {G : xw_G} {F L bc bs : Nat} {pr : Option Value → xw_A → Prop} {px : String → xw_A → Prop} {h : xw_A} {a0 : Nat} {x1 : Int32} {x2 : Int32}  (kt : 2 ≤ x2 → xw G m_Model_gets F L bc bs pr px 70 [some (.ref a0), some (.int x1), none, none] [] h) (kf : ¬ 2 ≤ x2 → xw G m_Model_gets F L bc bs pr px 7 [some (.ref a0), some (.int x1), some (.int x2), none] [] h) : xw G m_Model_gets F L bc bs pr px 2 [some (.ref a0), some (.int x1), some (.int x2), none] [] h := by
  refine x_iload_n d_Model_gets_2 rfl rfl ?_
  refine x_iconst (v := 2) d_Model_gets_3 (by decide) ?_
  refine x_icmp_ge (tgt := 70) d_Model_gets_4 (by decide) (fun hc => ?_) (fun hc => ?_)
  · exact x_le (lv' := [some (.ref a0), some (.int x1), none, none]) (xw_le_s (xw_le_s (xw_le_n (xw_le_n xw_le_e)))) (kt hc)
  · exact kf hc
theorem s_Model_gets_7 {G : xw_G} {F L bc bs : Nat} {pr : Option Value → xw_A → Prop} {px : String → xw_A → Prop} {h : xw_A} {a0 : Nat} {x1 : Int32} {x2 : Int32} {fs_a0 : List Value} {sizes_a0 : Nat} {preparedSize_a0 : Nat} {n_preparedSize_a0 : Nat} {f_preparedSize_a0 : Nat → Int32} {n_sizes_a0 : Nat} {f_sizes_a0 : Nat → Int32} (l_a0 : fs_a0.length = 62) (e_a0 : h a0 = some (.inr (11, fs_a0))) (g_a0_sizes : fs_a0[(8 : Nat)]? = some (.ref sizes_a0)) (g_a0_preparedSize : fs_a0[(6 : Nat)]? = some (.ref preparedSize_a0)) (e_preparedSize_a0 : h preparedSize_a0 = some (.inl (0, n_preparedSize_a0, .inl f_preparedSize_a0))) (i_21 : vp_in x2 n_preparedSize_a0) (e_sizes_a0 : h sizes_a0 = some (.inl (0, n_sizes_a0, .inl f_sizes_a0))) (i_22 : vp_in ((2 * x1) + x2) n_sizes_a0) (k : xw G m_Model_gets F L bc bs pr px 25 [some (.ref a0), some (.int x1), some (.int x2), some (.int 0)] [] (xw_up h sizes_a0 (.inl (0, n_sizes_a0, .inl (upd f_sizes_a0 (((2 * x1) + x2)).toNatClampNeg (f_preparedSize_a0 x2.toNatClampNeg)))))) : xw G m_Model_gets F L bc bs pr px 7 [some (.ref a0), some (.int x1), some (.int x2), none] [] h := by
  refine x_aload_n d_Model_gets_7 rfl rfl ?_
  refine x_get d_Model_gets_8 f_Model_32 e_a0 g_a0_sizes ?_
  refine x_iconst (v := 2) d_Model_gets_11 (by decide) ?_
  refine x_iload_n d_Model_gets_12 rfl rfl ?_
  refine x_imul d_Model_gets_13 ?_
  refine x_iload_n d_Model_gets_14 rfl rfl ?_
  refine x_iadd d_Model_gets_15 ?_
  refine x_aload_n d_Model_gets_16 rfl rfl ?_
  refine x_get d_Model_gets_17 f_Model_26 e_a0 g_a0_preparedSize ?_
  refine x_iload_n d_Model_gets_20 rfl rfl ?_
  refine x_iald d_Model_gets_21 e_preparedSize_a0 i_21 ?_
  refine x_iast d_Model_gets_22 e_sizes_a0 i_22 ?_
  refine x_iconst (v := 0) d_Model_gets_23 (by decide) ?_
  refine x_istore_n d_Model_gets_24 rfl (by decide) rfl ?_
  show xw G m_Model_gets F L bc bs pr px 25 [some (.ref a0), some (.int x1), some (.int x2), some (.int 0)] [] (xw_up h sizes_a0 (.inl (0, n_sizes_a0, .inl (upd f_sizes_a0 (((2 * x1) + x2)).toNatClampNeg (f_preparedSize_a0 x2.toNatClampNeg)))))
  exact k
theorem s_Model_gets_25 {G : xw_G} {F L bc bs : Nat} {pr : Option Value → xw_A → Prop} {px : String → xw_A → Prop} {h : xw_A} {a0 : Nat} {x1 : Int32} {x2 : Int32} {x3 : Int32}  (kt : 48 ≤ x3 → xw G m_Model_gets F L bc bs pr px 64 [some (.ref a0), some (.int x1), some (.int x2), none] [] h) (kf : ¬ 48 ≤ x3 → xw G m_Model_gets F L bc bs pr px 31 [some (.ref a0), some (.int x1), some (.int x2), some (.int x3)] [] h) : xw G m_Model_gets F L bc bs pr px 25 [some (.ref a0), some (.int x1), some (.int x2), some (.int x3)] [] h := by
  refine x_iload_n d_Model_gets_25 rfl rfl ?_
  refine x_bipush (v := 48) d_Model_gets_26 (by decide) ?_
  refine x_icmp_ge (tgt := 64) d_Model_gets_28 (by decide) (fun hc => ?_) (fun hc => ?_)
  · exact x_le (lv' := [some (.ref a0), some (.int x1), some (.int x2), none]) (xw_le_s (xw_le_s (xw_le_s (xw_le_n xw_le_e)))) (kt hc)
  · exact kf hc
theorem s_Model_gets_31 {G : xw_G} {F L bc bs : Nat} {pr : Option Value → xw_A → Prop} {px : String → xw_A → Prop} {h : xw_A} {a0 : Nat} {x1 : Int32} {x2 : Int32} {x3 : Int32} {fs_a0 : List Value} {texts_a0 : Nat} {prepared_a0 : Nat} {n_prepared_a0 : Nat} {f_prepared_a0 : Nat → Int32} {n_texts_a0 : Nat} {f_texts_a0 : Nat → Int32} (l_a0 : fs_a0.length = 62) (e_a0 : h a0 = some (.inr (11, fs_a0))) (g_a0_texts : fs_a0[(7 : Nat)]? = some (.ref texts_a0)) (g_a0_prepared : fs_a0[(5 : Nat)]? = some (.ref prepared_a0)) (e_prepared_a0 : h prepared_a0 = some (.inl (0, n_prepared_a0, .inl f_prepared_a0))) (i_56 : vp_in ((48 * x2) + x3) n_prepared_a0) (e_texts_a0 : h texts_a0 = some (.inl (0, n_texts_a0, .inl f_texts_a0))) (i_57 : vp_in (((96 * x1) + (48 * x2)) + x3) n_texts_a0) (k : xw G m_Model_gets F L bc bs pr px 25 [some (.ref a0), some (.int x1), some (.int x2), some (.int (x3 + 1))] [] (xw_up h texts_a0 (.inl (0, n_texts_a0, .inl (upd f_texts_a0 ((((96 * x1) + (48 * x2)) + x3)).toNatClampNeg (f_prepared_a0 ((48 * x2) + x3).toNatClampNeg)))))) : xw G m_Model_gets F L bc bs pr px 31 [some (.ref a0), some (.int x1), some (.int x2), some (.int x3)] [] h := by
  refine x_aload_n d_Model_gets_31 rfl rfl ?_
  refine x_get d_Model_gets_32 f_Model_29 e_a0 g_a0_texts ?_
  refine x_bipush (v := 96) d_Model_gets_35 (by decide) ?_
  refine x_iload_n d_Model_gets_37 rfl rfl ?_
  refine x_imul d_Model_gets_38 ?_
  refine x_bipush (v := 48) d_Model_gets_39 (by decide) ?_
  refine x_iload_n d_Model_gets_41 rfl rfl ?_
  refine x_imul d_Model_gets_42 ?_
  refine x_iadd d_Model_gets_43 ?_
  refine x_iload_n d_Model_gets_44 rfl rfl ?_
  refine x_iadd d_Model_gets_45 ?_
  refine x_aload_n d_Model_gets_46 rfl rfl ?_
  refine x_get d_Model_gets_47 f_Model_23 e_a0 g_a0_prepared ?_
  refine x_bipush (v := 48) d_Model_gets_50 (by decide) ?_
  refine x_iload_n d_Model_gets_52 rfl rfl ?_
  refine x_imul d_Model_gets_53 ?_
  refine x_iload_n d_Model_gets_54 rfl rfl ?_
  refine x_iadd d_Model_gets_55 ?_
  refine x_iald d_Model_gets_56 e_prepared_a0 i_56 ?_
  refine x_iast d_Model_gets_57 e_texts_a0 i_57 ?_
  refine x_iinc (v := x3 + 1) d_Model_gets_58 rfl (by rfl) (by decide) rfl ?_
  show xw G m_Model_gets F L bc bs pr px 61 [some (.ref a0), some (.int x1), some (.int x2), some (.int (x3 + 1))] [] (xw_up h texts_a0 (.inl (0, n_texts_a0, .inl (upd f_texts_a0 ((((96 * x1) + (48 * x2)) + x3)).toNatClampNeg (f_prepared_a0 ((48 * x2) + x3).toNatClampNeg)))))
  refine x_goto (tgt := 25) d_Model_gets_61 (by decide) ?_
  exact k
theorem s_Model_gets_64 {G : xw_G} {F L bc bs : Nat} {pr : Option Value → xw_A → Prop} {px : String → xw_A → Prop} {h : xw_A} {a0 : Nat} {x1 : Int32} {x2 : Int32}  (k : xw G m_Model_gets F L bc bs pr px 2 [some (.ref a0), some (.int x1), some (.int (x2 + 1)), none] [] h) : xw G m_Model_gets F L bc bs pr px 64 [some (.ref a0), some (.int x1), some (.int x2), none] [] h := by
  refine x_iinc (v := x2 + 1) d_Model_gets_64 rfl (by rfl) (by decide) rfl ?_
  show xw G m_Model_gets F L bc bs pr px 67 [some (.ref a0), some (.int x1), some (.int (x2 + 1)), none] [] h
  refine x_goto (tgt := 2) d_Model_gets_67 (by decide) ?_
  exact k
theorem s_Model_gets_70 {G : xw_G} {F L bc bs : Nat} {pr : Option Value → xw_A → Prop} {px : String → xw_A → Prop} {h : xw_A} {a0 : Nat} {x1 : Int32} {fs_a0 : List Value} {versions_a0 : Int32} {entries_a0 : Option Nat} (l_a0 : fs_a0.length = 62) (e_a0 : h a0 = some (.inr (11, fs_a0))) (g_a0_versions : fs_a0[(15 : Nat)]? = some (.int versions_a0)) (g_a0_entries : fs_a0[(12 : Nat)]? = some (va_rf entries_a0)) (k : xw G m_Model_gets F L bc bs pr px 92 [some (.ref a0), some (.int x1), some (.int versions_a0), none] [.int x1, .ref a0, .int versions_a0, va_rf entries_a0] (xw_up h a0 (.inr (11, (fs_a0.set 15 (.int (versions_a0 + 1))))))) : xw G m_Model_gets F L bc bs pr px 70 [some (.ref a0), some (.int x1), none, none] [] h := by
  refine x_aload_n d_Model_gets_70 rfl rfl ?_
  refine x_get d_Model_gets_71 f_Model_165 e_a0 g_a0_versions ?_
  refine x_istore_n d_Model_gets_74 rfl (by decide) rfl ?_
  show xw G m_Model_gets F L bc bs pr px 75 [some (.ref a0), some (.int x1), some (.int versions_a0), none] [] h
  refine x_aload_n d_Model_gets_75 rfl rfl ?_
  refine x_dup d_Model_gets_76 rfl ?_
  refine x_get d_Model_gets_77 f_Model_165 e_a0 g_a0_versions ?_
  refine x_iconst (v := 1) d_Model_gets_80 (by decide) ?_
  refine x_iadd d_Model_gets_81 ?_
  refine x_put (ty := .int) d_Model_gets_82 f_Model_165 fw_Model_15.1 fw_Model_15.2 rfl rfl (by simp [l_a0]) e_a0 ?_
  show xw G m_Model_gets F L bc bs pr px 85 [some (.ref a0), some (.int x1), some (.int versions_a0), none] [] (xw_up h a0 (.inr (11, (fs_a0.set 15 (.int (versions_a0 + 1))))))
  refine x_aload_n d_Model_gets_85 rfl rfl ?_
  refine x_get d_Model_gets_86 f_Model_38 (xw_up_s _ _ _) (xw_gn (by decide) g_a0_entries) ?_
  refine x_iload_n d_Model_gets_89 rfl rfl ?_
  refine x_aload_n d_Model_gets_90 rfl rfl ?_
  refine x_iload_n d_Model_gets_91 rfl rfl ?_
  exact k
theorem s_Model_gets_95 {G : xw_G} {F L bc bs : Nat} {pr : Option Value → xw_A → Prop} {px : String → xw_A → Prop} {h : xw_A} {a0 : Nat} {x1 : Int32} {x2 : Int32} {y0 : Int32} {b2 : Nat} {n_b2 : Nat} {f_b2 : Nat → Int32} {fs_a0 : List Value} {lies_a0 : Nat} {n_lies_a0 : Nat} {f_lies_a0 : Nat → Int32} {live_a0 : Nat} {n_live_a0 : Nat} {f_live_a0 : Nat → Int32} (e_b2 : h b2 = some (.inl (0, n_b2, .inl f_b2))) (i_95 : vp_in x2 n_b2) (l_a0 : fs_a0.length = 62) (e_a0 : h a0 = some (.inr (11, fs_a0))) (g_a0_lies : fs_a0[(13 : Nat)]? = some (.ref lies_a0)) (e_lies_a0 : h lies_a0 = some (.inl (0, n_lies_a0, .inl f_lies_a0))) (i_103 : vp_in x2 n_lies_a0) (n_lies_a0_b2 : lies_a0 ≠ b2) (g_a0_live : fs_a0[(14 : Nat)]? = some (.ref live_a0)) (e_live_a0 : h live_a0 = some (.inl (0, n_live_a0, .inl f_live_a0))) (i_110 : vp_in x1 n_live_a0) (n_live_a0_lies_a0 : live_a0 ≠ lies_a0) (n_live_a0_b2 : live_a0 ≠ b2) (k : xw G m_Model_gets F L bc bs pr px 112 [some (.ref a0), some (.int x1), some (.int x2), none] [.ref a0] (xw_up (xw_up (xw_up h b2 (.inl (0, n_b2, .inl (upd f_b2 (x2).toNatClampNeg y0)))) lies_a0 (.inl (0, n_lies_a0, .inl (upd f_lies_a0 (x2).toNatClampNeg ((-2)))))) live_a0 (.inl (0, n_live_a0, .inl (upd f_live_a0 (x1).toNatClampNeg x2))))) : xw G m_Model_gets F L bc bs pr px 95 [some (.ref a0), some (.int x1), some (.int x2), none] [.int y0, .int x2, .ref b2] h := by
  refine x_iast d_Model_gets_95 e_b2 i_95 ?_
  refine x_aload_n d_Model_gets_96 rfl rfl ?_
  refine x_get d_Model_gets_97 f_Model_41 ((xw_up_n _ _ (xw_ne e_a0 e_b2 (by simp))).trans e_a0) g_a0_lies ?_
  refine x_iload_n d_Model_gets_100 rfl rfl ?_
  refine x_bipush (v := -2) d_Model_gets_101 (by decide) ?_
  refine x_iast d_Model_gets_103 ((xw_up_n _ _ n_lies_a0_b2).trans e_lies_a0) i_103 ?_
  refine x_aload_n d_Model_gets_104 rfl rfl ?_
  refine x_get d_Model_gets_105 f_Model_44 ((xw_up_n _ _ (xw_ne e_a0 e_lies_a0 (by simp))).trans ((xw_up_n _ _ (xw_ne e_a0 e_b2 (by simp))).trans e_a0)) g_a0_live ?_
  refine x_iload_n d_Model_gets_108 rfl rfl ?_
  refine x_iload_n d_Model_gets_109 rfl rfl ?_
  refine x_iast d_Model_gets_110 ((xw_up_n _ _ n_live_a0_lies_a0).trans ((xw_up_n _ _ n_live_a0_b2).trans e_live_a0)) i_110 ?_
  refine x_aload_n d_Model_gets_111 rfl rfl ?_
  exact k
theorem s_Model_gets_115 {G : xw_G} {F L bc bs : Nat} {pr : Option Value → xw_A → Prop} {px : String → xw_A → Prop} {h : xw_A} {a0 : Nat} {x2 : Int32} {y0 : Int32} {fs_a0 : List Value} {limit_a0 : Int32} (l_a0 : fs_a0.length = 62) (e_a0 : h a0 = some (.inr (11, fs_a0))) (g_a0_limit : fs_a0[(2 : Nat)]? = some (.int limit_a0)) (kt : y0 ≤ limit_a0 → xw G m_Model_gets F L bc bs pr px 126 [some (.ref a0), none, some (.int x2), none] [] h) (kf : ¬ y0 ≤ limit_a0 → xw G m_Model_gets F L bc bs pr px 122 [some (.ref a0), none, some (.int x2), none] [] h) : xw G m_Model_gets F L bc bs pr px 115 [some (.ref a0), none, some (.int x2), none] [.int y0] h := by
  refine x_aload_n d_Model_gets_115 rfl rfl ?_
  refine x_get d_Model_gets_116 f_Model_13 e_a0 g_a0_limit ?_
  refine x_icmp_le (tgt := 126) d_Model_gets_119 (by decide) (fun hc => ?_) (fun hc => ?_)
  · exact kt hc
  · exact kf hc
theorem s_Model_gets_122 {G : xw_G} {F L bc bs : Nat} {pr : Option Value → xw_A → Prop} {px : String → xw_A → Prop} {h : xw_A} {a0 : Nat} {x2 : Int32}  (k : xw G m_Model_gets F L bc bs pr px 123 [some (.ref a0), none, some (.int x2), none] [.ref a0] h) : xw G m_Model_gets F L bc bs pr px 122 [some (.ref a0), none, some (.int x2), none] [] h := by
  refine x_aload_n d_Model_gets_122 rfl rfl ?_
  exact k
theorem s_Model_gets_126 {G : xw_G} {F L bc bs : Nat} {pr : Option Value → xw_A → Prop} {px : String → xw_A → Prop} {h : xw_A} {a0 : Nat} {x2 : Int32} {fs_a0 : List Value} {entries_a0 : Nat} {n_entries_a0 : Nat} {f_entries_a0 : Nat → Int32} (l_a0 : fs_a0.length = 62) (e_a0 : h a0 = some (.inr (11, fs_a0))) (g_a0_entries : fs_a0[(12 : Nat)]? = some (.ref entries_a0)) (e_entries_a0 : h entries_a0 = some (.inl (0, n_entries_a0, .inl f_entries_a0))) (i_131 : vp_in x2 n_entries_a0) (kr : pr (some (.int (f_entries_a0 x2.toNatClampNeg))) h) : xw G m_Model_gets F L bc bs pr px 126 [some (.ref a0), none, some (.int x2), none] [] h := by
  refine x_aload_n d_Model_gets_126 rfl rfl ?_
  refine x_get d_Model_gets_127 f_Model_38 e_a0 g_a0_entries ?_
  refine x_iload_n d_Model_gets_130 rfl rfl ?_
  refine x_iald d_Model_gets_131 e_entries_a0 i_131 ?_
  exact x_iret d_Model_gets_132 rfl kr
theorem s_Model_entriesOf_0 {G : xw_G} {F L bc bs : Nat} {pr : Option Value → xw_A → Prop} {px : String → xw_A → Prop} {h : xw_A} {a0 : Nat} {x1 : Int32}  (k : xw G m_Model_entriesOf F L bc bs pr px 4 [some (.ref a0), some (.int x1), some (.int 0), some (.int 0), none, none, none] [] h) : xw G m_Model_entriesOf F L bc bs pr px 0 [some (.ref a0), some (.int x1), none, none, none, none, none] [] h := by
  refine x_iconst (v := 0) d_Model_entriesOf_0 (by decide) ?_
  refine x_istore_n d_Model_entriesOf_1 rfl (by decide) rfl ?_
  show xw G m_Model_entriesOf F L bc bs pr px 2 [some (.ref a0), some (.int x1), some (.int 0), none, none, none, none] [] h
  refine x_iconst (v := 0) d_Model_entriesOf_2 (by decide) ?_
  refine x_istore_n d_Model_entriesOf_3 rfl (by decide) rfl ?_
  show xw G m_Model_entriesOf F L bc bs pr px 4 [some (.ref a0), some (.int x1), some (.int 0), some (.int 0), none, none, none] [] h
  exact k
theorem s_Model_entriesOf_4 {G : xw_G} {F L bc bs : Nat} {pr : Option Value → xw_A → Prop} {px : String → xw_A → Prop} {h : xw_A} {a0 : Nat} {x1 : Int32} {x2 : Int32} {x3 : Int32}  (kt : 2 ≤ x3 → xw G m_Model_entriesOf F L bc bs pr px 87 [none, none, some (.int x2), none, none, none, none] [] h) (kf : ¬ 2 ≤ x3 → xw G m_Model_entriesOf F L bc bs pr px 9 [some (.ref a0), some (.int x1), some (.int x2), some (.int x3), none, none, none] [] h) : xw G m_Model_entriesOf F L bc bs pr px 4 [some (.ref a0), some (.int x1), some (.int x2), some (.int x3), none, none, none] [] h := by
  refine x_iload_n d_Model_entriesOf_4 rfl rfl ?_
  refine x_iconst (v := 2) d_Model_entriesOf_5 (by decide) ?_
  refine x_icmp_ge (tgt := 87) d_Model_entriesOf_6 (by decide) (fun hc => ?_) (fun hc => ?_)
  · exact x_le (lv' := [none, none, some (.int x2), none, none, none, none]) (xw_le_n (xw_le_n (xw_le_s (xw_le_n (xw_le_n (xw_le_n (xw_le_n xw_le_e))))))) (kt hc)
  · exact kf hc
theorem s_Model_entriesOf_9 {G : xw_G} {F L bc bs : Nat} {pr : Option Value → xw_A → Prop} {px : String → xw_A → Prop} {h : xw_A} {a0 : Nat} {x1 : Int32} {x2 : Int32} {x3 : Int32}  (k : xw G m_Model_entriesOf F L bc bs pr px 12 [some (.ref a0), some (.int x1), some (.int x2), some (.int x3), none, none, none] [.int x3, .int x1, .ref a0] h) : xw G m_Model_entriesOf F L bc bs pr px 9 [some (.ref a0), some (.int x1), some (.int x2), some (.int x3), none, none, none] [] h := by
  refine x_aload_n d_Model_entriesOf_9 rfl rfl ?_
  refine x_iload_n d_Model_entriesOf_10 rfl rfl ?_
  refine x_iload_n d_Model_entriesOf_11 rfl rfl ?_
  exact k
theorem s_Model_entriesOf_15 {G : xw_G} {F L bc bs : Nat} {pr : Option Value → xw_A → Prop} {px : String → xw_A → Prop} {h : xw_A} {a0 : Nat} {x1 : Int32} {x2 : Int32} {x3 : Int32}  (k : xw G m_Model_entriesOf F L bc bs pr px 18 [some (.ref a0), some (.int x1), some (.int x2), some (.int x3), some (.int 0), none, none] [] h) : xw G m_Model_entriesOf F L bc bs pr px 15 [some (.ref a0), some (.int x1), some (.int x2), some (.int x3), none, none, none] [] h := by
  refine x_iconst (v := 0) d_Model_entriesOf_15 (by decide) ?_
  refine x_istore d_Model_entriesOf_16 (by decide) rfl ?_
  show xw G m_Model_entriesOf F L bc bs pr px 18 [some (.ref a0), some (.int x1), some (.int x2), some (.int x3), some (.int 0), none, none] [] h
  exact k
theorem s_Model_entriesOf_18 {G : xw_G} {F L bc bs : Nat} {pr : Option Value → xw_A → Prop} {px : String → xw_A → Prop} {h : xw_A} {a0 : Nat} {x1 : Int32} {x2 : Int32} {x3 : Int32} {x4 : Int32} {fs_a0 : List Value} {column_a0 : Int32} (l_a0 : fs_a0.length = 62) (e_a0 : h a0 = some (.inr (11, fs_a0))) (g_a0_column : fs_a0[(55 : Nat)]? = some (.int column_a0)) (kt : column_a0 ≤ x4 → xw G m_Model_entriesOf F L bc bs pr px 81 [some (.ref a0), some (.int x1), some (.int x2), some (.int x3), none, none, none] [] h) (kf : ¬ column_a0 ≤ x4 → xw G m_Model_entriesOf F L bc bs pr px 27 [some (.ref a0), some (.int x1), some (.int x2), some (.int x3), some (.int x4), none, none] [] h) : xw G m_Model_entriesOf F L bc bs pr px 18 [some (.ref a0), some (.int x1), some (.int x2), some (.int x3), some (.int x4), none, none] [] h := by
  refine x_iload d_Model_entriesOf_18 rfl ?_
  refine x_aload_n d_Model_entriesOf_20 rfl rfl ?_
  refine x_get d_Model_entriesOf_21 f_Model_150 e_a0 g_a0_column ?_
  refine x_icmp_ge (tgt := 81) d_Model_entriesOf_24 (by decide) (fun hc => ?_) (fun hc => ?_)
  · exact x_le (lv' := [some (.ref a0), some (.int x1), some (.int x2), some (.int x3), none, none, none]) (xw_le_s (xw_le_s (xw_le_s (xw_le_s (xw_le_n (xw_le_n (xw_le_n xw_le_e))))))) (kt hc)
  · exact kf hc
theorem s_Model_entriesOf_27 {G : xw_G} {F L bc bs : Nat} {pr : Option Value → xw_A → Prop} {px : String → xw_A → Prop} {h : xw_A} {a0 : Nat} {x1 : Int32} {x2 : Int32} {x3 : Int32} {x4 : Int32}  (k : xw G m_Model_entriesOf F L bc bs pr px 33 [some (.ref a0), some (.int x1), some (.int x2), some (.int x3), some (.int x4), some (.int 1), some (.int 0)] [] h) : xw G m_Model_entriesOf F L bc bs pr px 27 [some (.ref a0), some (.int x1), some (.int x2), some (.int x3), some (.int x4), none, none] [] h := by
  refine x_iconst (v := 1) d_Model_entriesOf_27 (by decide) ?_
  refine x_istore d_Model_entriesOf_28 (by decide) rfl ?_
  show xw G m_Model_entriesOf F L bc bs pr px 30 [some (.ref a0), some (.int x1), some (.int x2), some (.int x3), some (.int x4), some (.int 1), none] [] h
  refine x_iconst (v := 0) d_Model_entriesOf_30 (by decide) ?_
  refine x_istore d_Model_entriesOf_31 (by decide) rfl ?_
  show xw G m_Model_entriesOf F L bc bs pr px 33 [some (.ref a0), some (.int x1), some (.int x2), some (.int x3), some (.int x4), some (.int 1), some (.int 0)] [] h
  exact k
theorem s_Model_entriesOf_33 {G : xw_G} {F L bc bs : Nat} {pr : Option Value → xw_A → Prop} {px : String → xw_A → Prop} {h : xw_A} {a0 : Nat} {x1 : Int32} {x2 : Int32} {x3 : Int32} {x4 : Int32} {x5 : Int32} {x6 : Int32}  (kt : x4 ≤ x6 → xw G m_Model_entriesOf F L bc bs pr px 67 [some (.ref a0), some (.int x1), some (.int x2), some (.int x3), some (.int x4), some (.int x5), none] [] h) (kf : ¬ x4 ≤ x6 → xw G m_Model_entriesOf F L bc bs pr px 40 [some (.ref a0), some (.int x1), some (.int x2), some (.int x3), some (.int x4), some (.int x5), some (.int x6)] [] h) : xw G m_Model_entriesOf F L bc bs pr px 33 [some (.ref a0), some (.int x1), some (.int x2), some (.int x3), some (.int x4), some (.int x5), some (.int x6)] [] h := by
  refine x_iload d_Model_entriesOf_33 rfl ?_
  refine x_iload d_Model_entriesOf_35 rfl ?_
  refine x_icmp_ge (tgt := 67) d_Model_entriesOf_37 (by decide) (fun hc => ?_) (fun hc => ?_)
  · exact x_le (lv' := [some (.ref a0), some (.int x1), some (.int x2), some (.int x3), some (.int x4), some (.int x5), none]) (xw_le_s (xw_le_s (xw_le_s (xw_le_s (xw_le_s (xw_le_s (xw_le_n xw_le_e))))))) (kt hc)
  · exact kf hc
theorem s_Model_entriesOf_40 {G : xw_G} {F L bc bs : Nat} {pr : Option Value → xw_A → Prop} {px : String → xw_A → Prop} {h : xw_A} {a0 : Nat} {x1 : Int32} {x2 : Int32} {x3 : Int32} {x4 : Int32} {x5 : Int32} {x6 : Int32}  (k : xw G m_Model_entriesOf F L bc bs pr px 47 [some (.ref a0), some (.int x1), some (.int x2), some (.int x3), some (.int x4), some (.int x5), some (.int x6)] [.int x6, .int x4, .ref a0, .int x5] h) : xw G m_Model_entriesOf F L bc bs pr px 40 [some (.ref a0), some (.int x1), some (.int x2), some (.int x3), some (.int x4), some (.int x5), some (.int x6)] [] h := by
  refine x_iload d_Model_entriesOf_40 rfl ?_
  refine x_aload_n d_Model_entriesOf_42 rfl rfl ?_
  refine x_iload d_Model_entriesOf_43 rfl ?_
  refine x_iload d_Model_entriesOf_45 rfl ?_
  exact k
theorem s_Model_entriesOf_50 {G : xw_G} {F L bc bs : Nat} {pr : Option Value → xw_A → Prop} {px : String → xw_A → Prop} {h : xw_A} {a0 : Nat} {x1 : Int32} {x2 : Int32} {x3 : Int32} {x4 : Int32} {x6 : Int32} {y0 : Int32} {y1 : Int32}  (kt : ¬ y0 = 0 → xw G m_Model_entriesOf F L bc bs pr px 57 [some (.ref a0), some (.int x1), some (.int x2), some (.int x3), some (.int x4), none, some (.int x6)] [.int y1] h) (kf : y0 = 0 → xw G m_Model_entriesOf F L bc bs pr px 53 [some (.ref a0), some (.int x1), some (.int x2), some (.int x3), some (.int x4), none, some (.int x6)] [.int y1] h) : xw G m_Model_entriesOf F L bc bs pr px 50 [some (.ref a0), some (.int x1), some (.int x2), some (.int x3), some (.int x4), none, some (.int x6)] [.int y0, .int y1] h := by
  refine x_if_ne (tgt := 57) d_Model_entriesOf_50 (by decide) (fun hc => ?_) (fun hc => ?_)
  · exact kt hc
  · exact kf hc
theorem s_Model_entriesOf_53 {G : xw_G} {F L bc bs : Nat} {pr : Option Value → xw_A → Prop} {px : String → xw_A → Prop} {h : xw_A} {a0 : Nat} {x1 : Int32} {x2 : Int32} {x3 : Int32} {x4 : Int32} {x6 : Int32} {y0 : Int32}  (k : xw G m_Model_entriesOf F L bc bs pr px 58 [some (.ref a0), some (.int x1), some (.int x2), some (.int x3), some (.int x4), none, some (.int x6)] [.int 1, .int y0] h) : xw G m_Model_entriesOf F L bc bs pr px 53 [some (.ref a0), some (.int x1), some (.int x2), some (.int x3), some (.int x4), none, some (.int x6)] [.int y0] h := by
  refine x_iconst (v := 1) d_Model_entriesOf_53 (by decide) ?_
  refine x_goto (tgt := 58) d_Model_entriesOf_54 (by decide) ?_
  exact k
theorem s_Model_entriesOf_57 {G : xw_G} {F L bc bs : Nat} {pr : Option Value → xw_A → Prop} {px : String → xw_A → Prop} {h : xw_A} {a0 : Nat} {x1 : Int32} {x2 : Int32} {x3 : Int32} {x4 : Int32} {x6 : Int32} {y0 : Int32}  (k : xw G m_Model_entriesOf F L bc bs pr px 58 [some (.ref a0), some (.int x1), some (.int x2), some (.int x3), some (.int x4), none, some (.int x6)] [.int 0, .int y0] h) : xw G m_Model_entriesOf F L bc bs pr px 57 [some (.ref a0), some (.int x1), some (.int x2), some (.int x3), some (.int x4), none, some (.int x6)] [.int y0] h := by
  refine x_iconst (v := 0) d_Model_entriesOf_57 (by decide) ?_
  exact k
theorem s_Model_entriesOf_58 {G : xw_G} {F L bc bs : Nat} {pr : Option Value → xw_A → Prop} {px : String → xw_A → Prop} {h : xw_A} {a0 : Nat} {x1 : Int32} {x2 : Int32} {x3 : Int32} {x4 : Int32} {x6 : Int32} {y0 : Int32} {y1 : Int32}  (k : xw G m_Model_entriesOf F L bc bs pr px 33 [some (.ref a0), some (.int x1), some (.int x2), some (.int x3), some (.int x4), some (.int (y1 &&& y0)), some (.int (x6 + 1))] [] h) : xw G m_Model_entriesOf F L bc bs pr px 58 [some (.ref a0), some (.int x1), some (.int x2), some (.int x3), some (.int x4), none, some (.int x6)] [.int y0, .int y1] h := by
  refine x_iand d_Model_entriesOf_58 ?_
  refine x_istore d_Model_entriesOf_59 (by decide) rfl ?_
  show xw G m_Model_entriesOf F L bc bs pr px 61 [some (.ref a0), some (.int x1), some (.int x2), some (.int x3), some (.int x4), some (.int (y1 &&& y0)), some (.int x6)] [] h
  refine x_iinc (v := x6 + 1) d_Model_entriesOf_61 rfl (by rfl) (by decide) rfl ?_
  show xw G m_Model_entriesOf F L bc bs pr px 64 [some (.ref a0), some (.int x1), some (.int x2), some (.int x3), some (.int x4), some (.int (y1 &&& y0)), some (.int (x6 + 1))] [] h
  refine x_goto (tgt := 33) d_Model_entriesOf_64 (by decide) ?_
  exact k
theorem s_Model_entriesOf_67 {G : xw_G} {F L bc bs : Nat} {pr : Option Value → xw_A → Prop} {px : String → xw_A → Prop} {h : xw_A} {a0 : Nat} {x1 : Int32} {x2 : Int32} {x3 : Int32} {x4 : Int32} {x5 : Int32}  (kt : x5 = 0 → xw G m_Model_entriesOf F L bc bs pr px 75 [some (.ref a0), some (.int x1), some (.int x2), some (.int x3), some (.int x4), none, none] [] h) (kf : ¬ x5 = 0 → xw G m_Model_entriesOf F L bc bs pr px 72 [some (.ref a0), some (.int x1), some (.int x2), some (.int x3), some (.int x4), none, none] [] h) : xw G m_Model_entriesOf F L bc bs pr px 67 [some (.ref a0), some (.int x1), some (.int x2), some (.int x3), some (.int x4), some (.int x5), none] [] h := by
  refine x_iload d_Model_entriesOf_67 rfl ?_
  refine x_if_eq (tgt := 75) d_Model_entriesOf_69 (by decide) (fun hc => ?_) (fun hc => ?_)
  · exact x_le (lv' := [some (.ref a0), some (.int x1), some (.int x2), some (.int x3), some (.int x4), none, none]) (xw_le_s (xw_le_s (xw_le_s (xw_le_s (xw_le_s (xw_le_n (xw_le_n xw_le_e))))))) (kt hc)
  · exact x_le (lv' := [some (.ref a0), some (.int x1), some (.int x2), some (.int x3), some (.int x4), none, none]) (xw_le_s (xw_le_s (xw_le_s (xw_le_s (xw_le_s (xw_le_n (xw_le_n xw_le_e))))))) (kf hc)
theorem s_Model_entriesOf_72 {G : xw_G} {F L bc bs : Nat} {pr : Option Value → xw_A → Prop} {px : String → xw_A → Prop} {h : xw_A} {a0 : Nat} {x1 : Int32} {x2 : Int32} {x3 : Int32} {x4 : Int32}  (k : xw G m_Model_entriesOf F L bc bs pr px 75 [some (.ref a0), some (.int x1), some (.int (x2 + 1)), some (.int x3), some (.int x4), none, none] [] h) : xw G m_Model_entriesOf F L bc bs pr px 72 [some (.ref a0), some (.int x1), some (.int x2), some (.int x3), some (.int x4), none, none] [] h := by
  refine x_iinc (v := x2 + 1) d_Model_entriesOf_72 rfl (by rfl) (by decide) rfl ?_
  show xw G m_Model_entriesOf F L bc bs pr px 75 [some (.ref a0), some (.int x1), some (.int (x2 + 1)), some (.int x3), some (.int x4), none, none] [] h
  exact k
theorem s_Model_entriesOf_75 {G : xw_G} {F L bc bs : Nat} {pr : Option Value → xw_A → Prop} {px : String → xw_A → Prop} {h : xw_A} {a0 : Nat} {x1 : Int32} {x2 : Int32} {x3 : Int32} {x4 : Int32}  (k : xw G m_Model_entriesOf F L bc bs pr px 18 [some (.ref a0), some (.int x1), some (.int x2), some (.int x3), some (.int (x4 + 1)), none, none] [] h) : xw G m_Model_entriesOf F L bc bs pr px 75 [some (.ref a0), some (.int x1), some (.int x2), some (.int x3), some (.int x4), none, none] [] h := by
  refine x_iinc (v := x4 + 1) d_Model_entriesOf_75 rfl (by rfl) (by decide) rfl ?_
  show xw G m_Model_entriesOf F L bc bs pr px 78 [some (.ref a0), some (.int x1), some (.int x2), some (.int x3), some (.int (x4 + 1)), none, none] [] h
  refine x_goto (tgt := 18) d_Model_entriesOf_78 (by decide) ?_
  exact k
theorem s_Model_entriesOf_81 {G : xw_G} {F L bc bs : Nat} {pr : Option Value → xw_A → Prop} {px : String → xw_A → Prop} {h : xw_A} {a0 : Nat} {x1 : Int32} {x2 : Int32} {x3 : Int32}  (k : xw G m_Model_entriesOf F L bc bs pr px 4 [some (.ref a0), some (.int x1), some (.int x2), some (.int (x3 + 1)), none, none, none] [] h) : xw G m_Model_entriesOf F L bc bs pr px 81 [some (.ref a0), some (.int x1), some (.int x2), some (.int x3), none, none, none] [] h := by
  refine x_iinc (v := x3 + 1) d_Model_entriesOf_81 rfl (by rfl) (by decide) rfl ?_
  show xw G m_Model_entriesOf F L bc bs pr px 84 [some (.ref a0), some (.int x1), some (.int x2), some (.int (x3 + 1)), none, none, none] [] h
  refine x_goto (tgt := 4) d_Model_entriesOf_84 (by decide) ?_
  exact k
theorem s_Model_entriesOf_87 {G : xw_G} {F L bc bs : Nat} {pr : Option Value → xw_A → Prop} {px : String → xw_A → Prop} {h : xw_A} {x2 : Int32}  (kr : pr (some (.int x2)) h) : xw G m_Model_entriesOf F L bc bs pr px 87 [none, none, some (.int x2), none, none, none, none] [] h := by
  refine x_iload_n d_Model_entriesOf_87 rfl rfl ?_
  exact x_iret d_Model_entriesOf_88 rfl kr
theorem s_Model_opens_0 {G : xw_G} {F L bc bs : Nat} {pr : Option Value → xw_A → Prop} {px : String → xw_A → Prop} {h : xw_A} {a0 : Nat} {x1 : Int32} {x2 : Int32} {fs_a0 : List Value} {sizes_a0 : Nat} {n_sizes_a0 : Nat} {f_sizes_a0 : Nat → Int32} (l_a0 : fs_a0.length = 62) (e_a0 : h a0 = some (.inr (11, fs_a0))) (g_a0_sizes : fs_a0[(8 : Nat)]? = some (.ref sizes_a0)) (e_sizes_a0 : h sizes_a0 = some (.inl (0, n_sizes_a0, .inl f_sizes_a0))) (i_19 : vp_in ((2 * x1) + x2) n_sizes_a0) (k : xw G m_Model_opens F L bc bs pr px 30 [some (.ref a0), none, none, some (.int ((96 * x1) + (48 * x2))), some (.int (f_sizes_a0 ((2 * x1) + x2).toNatClampNeg)), some (.int 0)] [] (xw_up h a0 (.inr (11, (fs_a0.set 55 (.int 0)))))) : xw G m_Model_opens F L bc bs pr px 0 [some (.ref a0), some (.int x1), some (.int x2), none, none, none] [] h := by
  refine x_bipush (v := 96) d_Model_opens_0 (by decide) ?_
  refine x_iload_n d_Model_opens_2 rfl rfl ?_
  refine x_imul d_Model_opens_3 ?_
  refine x_bipush (v := 48) d_Model_opens_4 (by decide) ?_
  refine x_iload_n d_Model_opens_6 rfl rfl ?_
  refine x_imul d_Model_opens_7 ?_
  refine x_iadd d_Model_opens_8 ?_
  refine x_istore_n d_Model_opens_9 rfl (by decide) rfl ?_
  show xw G m_Model_opens F L bc bs pr px 10 [some (.ref a0), some (.int x1), some (.int x2), some (.int ((96 * x1) + (48 * x2))), none, none] [] h
  refine x_aload_n d_Model_opens_10 rfl rfl ?_
  refine x_get d_Model_opens_11 f_Model_32 e_a0 g_a0_sizes ?_
  refine x_iconst (v := 2) d_Model_opens_14 (by decide) ?_
  refine x_iload_n d_Model_opens_15 rfl rfl ?_
  refine x_imul d_Model_opens_16 ?_
  refine x_iload_n d_Model_opens_17 rfl rfl ?_
  refine x_iadd d_Model_opens_18 ?_
  refine x_iald d_Model_opens_19 e_sizes_a0 i_19 ?_
  refine x_istore d_Model_opens_20 (by decide) rfl ?_
  show xw G m_Model_opens F L bc bs pr px 22 [some (.ref a0), some (.int x1), some (.int x2), some (.int ((96 * x1) + (48 * x2))), some (.int (f_sizes_a0 ((2 * x1) + x2).toNatClampNeg)), none] [] h
  refine x_aload_n d_Model_opens_22 rfl rfl ?_
  refine x_iconst (v := 0) d_Model_opens_23 (by decide) ?_
  refine x_put (ty := .int) d_Model_opens_24 f_Model_150 fw_Model_55.1 fw_Model_55.2 rfl rfl (by simp [l_a0]) e_a0 ?_
  show xw G m_Model_opens F L bc bs pr px 27 [some (.ref a0), some (.int x1), some (.int x2), some (.int ((96 * x1) + (48 * x2))), some (.int (f_sizes_a0 ((2 * x1) + x2).toNatClampNeg)), none] [] (xw_up h a0 (.inr (11, (fs_a0.set 55 (.int 0)))))
  refine x_iconst (v := 0) d_Model_opens_27 (by decide) ?_
  refine x_istore d_Model_opens_28 (by decide) rfl ?_
  show xw G m_Model_opens F L bc bs pr px 30 [some (.ref a0), some (.int x1), some (.int x2), some (.int ((96 * x1) + (48 * x2))), some (.int (f_sizes_a0 ((2 * x1) + x2).toNatClampNeg)), some (.int 0)] [] (xw_up h a0 (.inr (11, (fs_a0.set 55 (.int 0)))))
  exact x_le (lv' := [some (.ref a0), none, none, some (.int ((96 * x1) + (48 * x2))), some (.int (f_sizes_a0 ((2 * x1) + x2).toNatClampNeg)), some (.int 0)]) (xw_le_s (xw_le_n (xw_le_n (xw_le_s (xw_le_s (xw_le_s xw_le_e)))))) (k)
theorem s_Model_opens_30 {G : xw_G} {F L bc bs : Nat} {pr : Option Value → xw_A → Prop} {px : String → xw_A → Prop} {h : xw_A} {a0 : Nat} {x3 : Int32} {x4 : Int32} {x5 : Int32}  (kt : x4 ≤ x5 → xw G m_Model_opens F L bc bs pr px 123 [none, none, none, none, none, none] [] h) (kf : ¬ x4 ≤ x5 → xw G m_Model_opens F L bc bs pr px 37 [some (.ref a0), none, none, some (.int x3), some (.int x4), some (.int x5)] [] h) : xw G m_Model_opens F L bc bs pr px 30 [some (.ref a0), none, none, some (.int x3), some (.int x4), some (.int x5)] [] h := by
  refine x_iload d_Model_opens_30 rfl ?_
  refine x_iload d_Model_opens_32 rfl ?_
  refine x_icmp_ge (tgt := 123) d_Model_opens_34 (by decide) (fun hc => ?_) (fun hc => ?_)
  · exact x_le (lv' := [none, none, none, none, none, none]) (xw_le_n (xw_le_n (xw_le_n (xw_le_n (xw_le_n (xw_le_n xw_le_e)))))) (kt hc)
  · exact kf hc
theorem s_Model_opens_37 {G : xw_G} {F L bc bs : Nat} {pr : Option Value → xw_A → Prop} {px : String → xw_A → Prop} {h : xw_A} {a0 : Nat} {x3 : Int32} {x4 : Int32} {x5 : Int32} {fs_a0 : List Value} {texts_a0 : Nat} {n_texts_a0 : Nat} {f_texts_a0 : Nat → Int32} (l_a0 : fs_a0.length = 62) (e_a0 : h a0 = some (.inr (11, fs_a0))) (g_a0_texts : fs_a0[(7 : Nat)]? = some (.ref texts_a0)) (e_texts_a0 : h texts_a0 = some (.inl (0, n_texts_a0, .inl f_texts_a0))) (i_45 : vp_in (x3 + x5) n_texts_a0) (k : xw G m_Model_opens F L bc bs pr px 46 [some (.ref a0), none, none, some (.int x3), some (.int x4), some (.int x5)] [.int (f_texts_a0 (x3 + x5).toNatClampNeg)] h) : xw G m_Model_opens F L bc bs pr px 37 [some (.ref a0), none, none, some (.int x3), some (.int x4), some (.int x5)] [] h := by
  refine x_aload_n d_Model_opens_37 rfl rfl ?_
  refine x_get d_Model_opens_38 f_Model_29 e_a0 g_a0_texts ?_
  refine x_iload_n d_Model_opens_41 rfl rfl ?_
  refine x_iload d_Model_opens_42 rfl ?_
  refine x_iadd d_Model_opens_44 ?_
  refine x_iald d_Model_opens_45 e_texts_a0 i_45 ?_
  exact k
theorem s_Model_opens_49 {G : xw_G} {F L bc bs : Nat} {pr : Option Value → xw_A → Prop} {px : String → xw_A → Prop} {h : xw_A} {a0 : Nat} {x3 : Int32} {x4 : Int32} {x5 : Int32} {y0 : Int32}  (kt : ¬ y0 = 0 → xw G m_Model_opens F L bc bs pr px 55 [some (.ref a0), none, none, some (.int x3), some (.int x4), some (.int x5)] [] h) (kf : y0 = 0 → xw G m_Model_opens F L bc bs pr px 52 [some (.ref a0), none, none, some (.int x3), some (.int x4), some (.int x5)] [] h) : xw G m_Model_opens F L bc bs pr px 49 [some (.ref a0), none, none, some (.int x3), some (.int x4), some (.int x5)] [.int y0] h := by
  refine x_if_ne (tgt := 55) d_Model_opens_49 (by decide) (fun hc => ?_) (fun hc => ?_)
  · exact kt hc
  · exact kf hc
theorem s_Model_opens_52 {G : xw_G} {F L bc bs : Nat} {pr : Option Value → xw_A → Prop} {px : String → xw_A → Prop} {h : xw_A} {a0 : Nat} {x3 : Int32} {x4 : Int32} {x5 : Int32}  (k : xw G m_Model_opens F L bc bs pr px 117 [some (.ref a0), none, none, some (.int x3), some (.int x4), some (.int x5)] [] h) : xw G m_Model_opens F L bc bs pr px 52 [some (.ref a0), none, none, some (.int x3), some (.int x4), some (.int x5)] [] h := by
  refine x_goto (tgt := 117) d_Model_opens_52 (by decide) ?_
  exact k
theorem s_Model_opens_55 {G : xw_G} {F L bc bs : Nat} {pr : Option Value → xw_A → Prop} {px : String → xw_A → Prop} {h : xw_A} {a0 : Nat} {x3 : Int32} {x4 : Int32} {x5 : Int32}  (kt : x5 = 0 → xw G m_Model_opens F L bc bs pr px 77 [some (.ref a0), none, none, some (.int x3), some (.int x4), some (.int x5)] [] h) (kf : ¬ x5 = 0 → xw G m_Model_opens F L bc bs pr px 60 [some (.ref a0), none, none, some (.int x3), some (.int x4), some (.int x5)] [] h) : xw G m_Model_opens F L bc bs pr px 55 [some (.ref a0), none, none, some (.int x3), some (.int x4), some (.int x5)] [] h := by
  refine x_iload d_Model_opens_55 rfl ?_
  refine x_if_eq (tgt := 77) d_Model_opens_57 (by decide) (fun hc => ?_) (fun hc => ?_)
  · exact kt hc
  · exact kf hc
theorem s_Model_opens_60 {G : xw_G} {F L bc bs : Nat} {pr : Option Value → xw_A → Prop} {px : String → xw_A → Prop} {h : xw_A} {a0 : Nat} {x3 : Int32} {x4 : Int32} {x5 : Int32} {fs_a0 : List Value} {texts_a0 : Nat} {n_texts_a0 : Nat} {f_texts_a0 : Nat → Int32} (l_a0 : fs_a0.length = 62) (e_a0 : h a0 = some (.inr (11, fs_a0))) (g_a0_texts : fs_a0[(7 : Nat)]? = some (.ref texts_a0)) (e_texts_a0 : h texts_a0 = some (.inl (0, n_texts_a0, .inl f_texts_a0))) (i_70 : vp_in ((x3 + x5) - 1) n_texts_a0) (k : xw G m_Model_opens F L bc bs pr px 71 [some (.ref a0), none, none, some (.int x3), some (.int x4), some (.int x5)] [.int (f_texts_a0 ((x3 + x5) - 1).toNatClampNeg)] h) : xw G m_Model_opens F L bc bs pr px 60 [some (.ref a0), none, none, some (.int x3), some (.int x4), some (.int x5)] [] h := by
  refine x_aload_n d_Model_opens_60 rfl rfl ?_
  refine x_get d_Model_opens_61 f_Model_29 e_a0 g_a0_texts ?_
  refine x_iload_n d_Model_opens_64 rfl rfl ?_
  refine x_iload d_Model_opens_65 rfl ?_
  refine x_iadd d_Model_opens_67 ?_
  refine x_iconst (v := 1) d_Model_opens_68 (by decide) ?_
  refine x_isub d_Model_opens_69 ?_
  refine x_iald d_Model_opens_70 e_texts_a0 i_70 ?_
  exact k
theorem s_Model_opens_74 {G : xw_G} {F L bc bs : Nat} {pr : Option Value → xw_A → Prop} {px : String → xw_A → Prop} {h : xw_A} {a0 : Nat} {x3 : Int32} {x4 : Int32} {x5 : Int32} {y0 : Int32}  (kt : ¬ y0 = 0 → xw G m_Model_opens F L bc bs pr px 100 [some (.ref a0), none, none, some (.int x3), some (.int x4), some (.int x5)] [] h) (kf : y0 = 0 → xw G m_Model_opens F L bc bs pr px 77 [some (.ref a0), none, none, some (.int x3), some (.int x4), some (.int x5)] [] h) : xw G m_Model_opens F L bc bs pr px 74 [some (.ref a0), none, none, some (.int x3), some (.int x4), some (.int x5)] [.int y0] h := by
  refine x_if_ne (tgt := 100) d_Model_opens_74 (by decide) (fun hc => ?_) (fun hc => ?_)
  · exact kt hc
  · exact kf hc
theorem s_Model_opens_77 {G : xw_G} {F L bc bs : Nat} {pr : Option Value → xw_A → Prop} {px : String → xw_A → Prop} {h : xw_A} {a0 : Nat} {x3 : Int32} {x4 : Int32} {x5 : Int32} {fs_a0 : List Value} {begins_a0 : Nat} {column_a0 : Int32} {n_begins_a0 : Nat} {f_begins_a0 : Nat → Int32} (l_a0 : fs_a0.length = 62) (e_a0 : h a0 = some (.inr (11, fs_a0))) (g_a0_begins : fs_a0[(53 : Nat)]? = some (.ref begins_a0)) (g_a0_column : fs_a0[(55 : Nat)]? = some (.int column_a0)) (e_begins_a0 : h begins_a0 = some (.inl (0, n_begins_a0, .inl f_begins_a0))) (i_89 : vp_in column_a0 n_begins_a0) (k : xw G m_Model_opens F L bc bs pr px 100 [some (.ref a0), none, none, some (.int x3), some (.int x4), some (.int x5)] [] (xw_up (xw_up h begins_a0 (.inl (0, n_begins_a0, .inl (upd f_begins_a0 (column_a0).toNatClampNeg (x3 + x5))))) a0 (.inr (11, (fs_a0.set 55 (.int (column_a0 + 1))))))) : xw G m_Model_opens F L bc bs pr px 77 [some (.ref a0), none, none, some (.int x3), some (.int x4), some (.int x5)] [] h := by
  refine x_aload_n d_Model_opens_77 rfl rfl ?_
  refine x_get d_Model_opens_78 f_Model_110 e_a0 g_a0_begins ?_
  refine x_aload_n d_Model_opens_81 rfl rfl ?_
  refine x_get d_Model_opens_82 f_Model_150 e_a0 g_a0_column ?_
  refine x_iload_n d_Model_opens_85 rfl rfl ?_
  refine x_iload d_Model_opens_86 rfl ?_
  refine x_iadd d_Model_opens_88 ?_
  refine x_iast d_Model_opens_89 e_begins_a0 i_89 ?_
  refine x_aload_n d_Model_opens_90 rfl rfl ?_
  refine x_dup d_Model_opens_91 rfl ?_
  refine x_get d_Model_opens_92 f_Model_150 ((xw_up_n _ _ (xw_ne e_a0 e_begins_a0 (by simp))).trans e_a0) g_a0_column ?_
  refine x_iconst (v := 1) d_Model_opens_95 (by decide) ?_
  refine x_iadd d_Model_opens_96 ?_
  refine x_put (ty := .int) d_Model_opens_97 f_Model_150 fw_Model_55.1 fw_Model_55.2 rfl rfl (by simp [l_a0]) ((xw_up_n _ _ (xw_ne e_a0 e_begins_a0 (by simp))).trans e_a0) ?_
  show xw G m_Model_opens F L bc bs pr px 100 [some (.ref a0), none, none, some (.int x3), some (.int x4), some (.int x5)] [] (xw_up (xw_up h begins_a0 (.inl (0, n_begins_a0, .inl (upd f_begins_a0 (column_a0).toNatClampNeg (x3 + x5))))) a0 (.inr (11, (fs_a0.set 55 (.int (column_a0 + 1))))))
  exact k
theorem s_Model_opens_100 {G : xw_G} {F L bc bs : Nat} {pr : Option Value → xw_A → Prop} {px : String → xw_A → Prop} {h : xw_A} {a0 : Nat} {x3 : Int32} {x4 : Int32} {x5 : Int32} {fs_a0 : List Value} {lasts_a0 : Nat} {column_a0 : Int32} {n_lasts_a0 : Nat} {f_lasts_a0 : Nat → Int32} (l_a0 : fs_a0.length = 62) (e_a0 : h a0 = some (.inr (11, fs_a0))) (g_a0_lasts : fs_a0[(54 : Nat)]? = some (.ref lasts_a0)) (g_a0_column : fs_a0[(55 : Nat)]? = some (.int column_a0)) (e_lasts_a0 : h lasts_a0 = some (.inl (0, n_lasts_a0, .inl f_lasts_a0))) (i_116 : vp_in (column_a0 - 1) n_lasts_a0) (k : xw G m_Model_opens F L bc bs pr px 117 [some (.ref a0), none, none, some (.int x3), some (.int x4), some (.int x5)] [] (xw_up h lasts_a0 (.inl (0, n_lasts_a0, .inl (upd f_lasts_a0 ((column_a0 - 1)).toNatClampNeg ((x3 + x5) + 1)))))) : xw G m_Model_opens F L bc bs pr px 100 [some (.ref a0), none, none, some (.int x3), some (.int x4), some (.int x5)] [] h := by
  refine x_aload_n d_Model_opens_100 rfl rfl ?_
  refine x_get d_Model_opens_101 f_Model_113 e_a0 g_a0_lasts ?_
  refine x_aload_n d_Model_opens_104 rfl rfl ?_
  refine x_get d_Model_opens_105 f_Model_150 e_a0 g_a0_column ?_
  refine x_iconst (v := 1) d_Model_opens_108 (by decide) ?_
  refine x_isub d_Model_opens_109 ?_
  refine x_iload_n d_Model_opens_110 rfl rfl ?_
  refine x_iload d_Model_opens_111 rfl ?_
  refine x_iadd d_Model_opens_113 ?_
  refine x_iconst (v := 1) d_Model_opens_114 (by decide) ?_
  refine x_iadd d_Model_opens_115 ?_
  refine x_iast d_Model_opens_116 e_lasts_a0 i_116 ?_
  exact k
theorem s_Model_opens_117 {G : xw_G} {F L bc bs : Nat} {pr : Option Value → xw_A → Prop} {px : String → xw_A → Prop} {h : xw_A} {a0 : Nat} {x3 : Int32} {x4 : Int32} {x5 : Int32}  (k : xw G m_Model_opens F L bc bs pr px 30 [some (.ref a0), none, none, some (.int x3), some (.int x4), some (.int (x5 + 1))] [] h) : xw G m_Model_opens F L bc bs pr px 117 [some (.ref a0), none, none, some (.int x3), some (.int x4), some (.int x5)] [] h := by
  refine x_iinc (v := x5 + 1) d_Model_opens_117 rfl (by rfl) (by decide) rfl ?_
  show xw G m_Model_opens F L bc bs pr px 120 [some (.ref a0), none, none, some (.int x3), some (.int x4), some (.int (x5 + 1))] [] h
  refine x_goto (tgt := 30) d_Model_opens_120 (by decide) ?_
  exact k
theorem s_Model_opens_123 {G : xw_G} {F L bc bs : Nat} {pr : Option Value → xw_A → Prop} {px : String → xw_A → Prop} {h : xw_A}   (kr : pr none h) : xw G m_Model_opens F L bc bs pr px 123 [none, none, none, none, none, none] [] h := by
  exact x_vret d_Model_opens_123 rfl kr
theorem s_Model_alike_0 {G : xw_G} {F L bc bs : Nat} {pr : Option Value → xw_A → Prop} {px : String → xw_A → Prop} {h : xw_A} {a0 : Nat} {x1 : Int32} {x2 : Int32} {fs_a0 : List Value} {lasts_a0 : Nat} {n_lasts_a0 : Nat} {f_lasts_a0 : Nat → Int32} {begins_a0 : Nat} {n_begins_a0 : Nat} {f_begins_a0 : Nat → Int32} (l_a0 : fs_a0.length = 62) (e_a0 : h a0 = some (.inr (11, fs_a0))) (g_a0_lasts : fs_a0[(54 : Nat)]? = some (.ref lasts_a0)) (e_lasts_a0 : h lasts_a0 = some (.inl (0, n_lasts_a0, .inl f_lasts_a0))) (i_5 : vp_in x1 n_lasts_a0) (g_a0_begins : fs_a0[(53 : Nat)]? = some (.ref begins_a0)) (e_begins_a0 : h begins_a0 = some (.inl (0, n_begins_a0, .inl f_begins_a0))) (i_11 : vp_in x1 n_begins_a0) (i_19 : vp_in x2 n_lasts_a0) (i_25 : vp_in x2 n_begins_a0) (kt : ((f_lasts_a0 x2.toNatClampNeg) - (f_begins_a0 x2.toNatClampNeg)) = ((f_lasts_a0 x1.toNatClampNeg) - (f_begins_a0 x1.toNatClampNeg)) → xw G m_Model_alike F L bc bs pr px 33 [some (.ref a0), some (.int x1), some (.int x2), some (.int ((f_lasts_a0 x1.toNatClampNeg) - (f_begins_a0 x1.toNatClampNeg))), none] [] h) (kf : ¬ ((f_lasts_a0 x2.toNatClampNeg) - (f_begins_a0 x2.toNatClampNeg)) = ((f_lasts_a0 x1.toNatClampNeg) - (f_begins_a0 x1.toNatClampNeg)) → xw G m_Model_alike F L bc bs pr px 31 [none, none, none, none, none] [] h) : xw G m_Model_alike F L bc bs pr px 0 [some (.ref a0), some (.int x1), some (.int x2), none, none] [] h := by
  refine x_aload_n d_Model_alike_0 rfl rfl ?_
  refine x_get d_Model_alike_1 f_Model_113 e_a0 g_a0_lasts ?_
  refine x_iload_n d_Model_alike_4 rfl rfl ?_
  refine x_iald d_Model_alike_5 e_lasts_a0 i_5 ?_
  refine x_aload_n d_Model_alike_6 rfl rfl ?_
  refine x_get d_Model_alike_7 f_Model_110 e_a0 g_a0_begins ?_
  refine x_iload_n d_Model_alike_10 rfl rfl ?_
  refine x_iald d_Model_alike_11 e_begins_a0 i_11 ?_
  refine x_isub d_Model_alike_12 ?_
  refine x_istore_n d_Model_alike_13 rfl (by decide) rfl ?_
  show xw G m_Model_alike F L bc bs pr px 14 [some (.ref a0), some (.int x1), some (.int x2), some (.int ((f_lasts_a0 x1.toNatClampNeg) - (f_begins_a0 x1.toNatClampNeg))), none] [] h
  refine x_aload_n d_Model_alike_14 rfl rfl ?_
  refine x_get d_Model_alike_15 f_Model_113 e_a0 g_a0_lasts ?_
  refine x_iload_n d_Model_alike_18 rfl rfl ?_
  refine x_iald d_Model_alike_19 e_lasts_a0 i_19 ?_
  refine x_aload_n d_Model_alike_20 rfl rfl ?_
  refine x_get d_Model_alike_21 f_Model_110 e_a0 g_a0_begins ?_
  refine x_iload_n d_Model_alike_24 rfl rfl ?_
  refine x_iald d_Model_alike_25 e_begins_a0 i_25 ?_
  refine x_isub d_Model_alike_26 ?_
  refine x_iload_n d_Model_alike_27 rfl rfl ?_
  refine x_icmp_eq (tgt := 33) d_Model_alike_28 (by decide) (fun hc => ?_) (fun hc => ?_)
  · exact kt hc
  · exact x_le (lv' := [none, none, none, none, none]) (xw_le_n (xw_le_n (xw_le_n (xw_le_n (xw_le_n xw_le_e))))) (kf hc)
theorem s_Model_alike_31 {G : xw_G} {F L bc bs : Nat} {pr : Option Value → xw_A → Prop} {px : String → xw_A → Prop} {h : xw_A}   (kr : pr (some (.int 0)) h) : xw G m_Model_alike F L bc bs pr px 31 [none, none, none, none, none] [] h := by
  refine x_iconst (v := 0) d_Model_alike_31 (by decide) ?_
  exact x_zret d_Model_alike_32 rfl rfl kr
theorem s_Model_alike_33 {G : xw_G} {F L bc bs : Nat} {pr : Option Value → xw_A → Prop} {px : String → xw_A → Prop} {h : xw_A} {a0 : Nat} {x1 : Int32} {x2 : Int32} {x3 : Int32}  (k : xw G m_Model_alike F L bc bs pr px 36 [some (.ref a0), some (.int x1), some (.int x2), some (.int x3), some (.int 0)] [] h) : xw G m_Model_alike F L bc bs pr px 33 [some (.ref a0), some (.int x1), some (.int x2), some (.int x3), none] [] h := by
  refine x_iconst (v := 0) d_Model_alike_33 (by decide) ?_
  refine x_istore d_Model_alike_34 (by decide) rfl ?_
  show xw G m_Model_alike F L bc bs pr px 36 [some (.ref a0), some (.int x1), some (.int x2), some (.int x3), some (.int 0)] [] h
  exact k
theorem s_Model_alike_36 {G : xw_G} {F L bc bs : Nat} {pr : Option Value → xw_A → Prop} {px : String → xw_A → Prop} {h : xw_A} {a0 : Nat} {x1 : Int32} {x2 : Int32} {x3 : Int32} {x4 : Int32}  (kt : x3 ≤ x4 → xw G m_Model_alike F L bc bs pr px 87 [none, none, none, none, none] [] h) (kf : ¬ x3 ≤ x4 → xw G m_Model_alike F L bc bs pr px 42 [some (.ref a0), some (.int x1), some (.int x2), some (.int x3), some (.int x4)] [] h) : xw G m_Model_alike F L bc bs pr px 36 [some (.ref a0), some (.int x1), some (.int x2), some (.int x3), some (.int x4)] [] h := by
  refine x_iload d_Model_alike_36 rfl ?_
  refine x_iload_n d_Model_alike_38 rfl rfl ?_
  refine x_icmp_ge (tgt := 87) d_Model_alike_39 (by decide) (fun hc => ?_) (fun hc => ?_)
  · exact x_le (lv' := [none, none, none, none, none]) (xw_le_n (xw_le_n (xw_le_n (xw_le_n (xw_le_n xw_le_e))))) (kt hc)
  · exact kf hc
theorem s_Model_alike_42 {G : xw_G} {F L bc bs : Nat} {pr : Option Value → xw_A → Prop} {px : String → xw_A → Prop} {h : xw_A} {a0 : Nat} {x1 : Int32} {x2 : Int32} {x3 : Int32} {x4 : Int32} {fs_a0 : List Value} {texts_a0 : Nat} {begins_a0 : Nat} {n_begins_a0 : Nat} {f_begins_a0 : Nat → Int32} {n_texts_a0 : Nat} {f_texts_a0 : Nat → Int32} (l_a0 : fs_a0.length = 62) (e_a0 : h a0 = some (.inr (11, fs_a0))) (g_a0_texts : fs_a0[(7 : Nat)]? = some (.ref texts_a0)) (g_a0_begins : fs_a0[(53 : Nat)]? = some (.ref begins_a0)) (e_begins_a0 : h begins_a0 = some (.inl (0, n_begins_a0, .inl f_begins_a0))) (i_51 : vp_in x1 n_begins_a0) (e_texts_a0 : h texts_a0 = some (.inl (0, n_texts_a0, .inl f_texts_a0))) (i_55 : vp_in ((f_begins_a0 x1.toNatClampNeg) + x4) n_texts_a0) (k : xw G m_Model_alike F L bc bs pr px 56 [some (.ref a0), some (.int x1), some (.int x2), some (.int x3), some (.int x4)] [.int (f_texts_a0 ((f_begins_a0 x1.toNatClampNeg) + x4).toNatClampNeg)] h) : xw G m_Model_alike F L bc bs pr px 42 [some (.ref a0), some (.int x1), some (.int x2), some (.int x3), some (.int x4)] [] h := by
  refine x_aload_n d_Model_alike_42 rfl rfl ?_
  refine x_get d_Model_alike_43 f_Model_29 e_a0 g_a0_texts ?_
  refine x_aload_n d_Model_alike_46 rfl rfl ?_
  refine x_get d_Model_alike_47 f_Model_110 e_a0 g_a0_begins ?_
  refine x_iload_n d_Model_alike_50 rfl rfl ?_
  refine x_iald d_Model_alike_51 e_begins_a0 i_51 ?_
  refine x_iload d_Model_alike_52 rfl ?_
  refine x_iadd d_Model_alike_54 ?_
  refine x_iald d_Model_alike_55 e_texts_a0 i_55 ?_
  exact k
theorem s_Model_alike_59 {G : xw_G} {F L bc bs : Nat} {pr : Option Value → xw_A → Prop} {px : String → xw_A → Prop} {h : xw_A} {a0 : Nat} {x1 : Int32} {x2 : Int32} {x3 : Int32} {x4 : Int32} {y0 : Int32} {fs_a0 : List Value} {texts_a0 : Nat} {begins_a0 : Nat} {n_begins_a0 : Nat} {f_begins_a0 : Nat → Int32} {n_texts_a0 : Nat} {f_texts_a0 : Nat → Int32} (l_a0 : fs_a0.length = 62) (e_a0 : h a0 = some (.inr (11, fs_a0))) (g_a0_texts : fs_a0[(7 : Nat)]? = some (.ref texts_a0)) (g_a0_begins : fs_a0[(53 : Nat)]? = some (.ref begins_a0)) (e_begins_a0 : h begins_a0 = some (.inl (0, n_begins_a0, .inl f_begins_a0))) (i_68 : vp_in x2 n_begins_a0) (e_texts_a0 : h texts_a0 = some (.inl (0, n_texts_a0, .inl f_texts_a0))) (i_72 : vp_in ((f_begins_a0 x2.toNatClampNeg) + x4) n_texts_a0) (k : xw G m_Model_alike F L bc bs pr px 73 [some (.ref a0), some (.int x1), some (.int x2), some (.int x3), some (.int x4)] [.int (f_texts_a0 ((f_begins_a0 x2.toNatClampNeg) + x4).toNatClampNeg), .int y0] h) : xw G m_Model_alike F L bc bs pr px 59 [some (.ref a0), some (.int x1), some (.int x2), some (.int x3), some (.int x4)] [.int y0] h := by
  refine x_aload_n d_Model_alike_59 rfl rfl ?_
  refine x_get d_Model_alike_60 f_Model_29 e_a0 g_a0_texts ?_
  refine x_aload_n d_Model_alike_63 rfl rfl ?_
  refine x_get d_Model_alike_64 f_Model_110 e_a0 g_a0_begins ?_
  refine x_iload_n d_Model_alike_67 rfl rfl ?_
  refine x_iald d_Model_alike_68 e_begins_a0 i_68 ?_
  refine x_iload d_Model_alike_69 rfl ?_
  refine x_iadd d_Model_alike_71 ?_
  refine x_iald d_Model_alike_72 e_texts_a0 i_72 ?_
  exact k
theorem s_Model_alike_76 {G : xw_G} {F L bc bs : Nat} {pr : Option Value → xw_A → Prop} {px : String → xw_A → Prop} {h : xw_A} {a0 : Nat} {x1 : Int32} {x2 : Int32} {x3 : Int32} {x4 : Int32} {y0 : Int32} {y1 : Int32}  (kt : y1 = y0 → xw G m_Model_alike F L bc bs pr px 81 [some (.ref a0), some (.int x1), some (.int x2), some (.int x3), some (.int x4)] [] h) (kf : ¬ y1 = y0 → xw G m_Model_alike F L bc bs pr px 79 [none, none, none, none, none] [] h) : xw G m_Model_alike F L bc bs pr px 76 [some (.ref a0), some (.int x1), some (.int x2), some (.int x3), some (.int x4)] [.int y0, .int y1] h := by
  refine x_icmp_eq (tgt := 81) d_Model_alike_76 (by decide) (fun hc => ?_) (fun hc => ?_)
  · exact kt hc
  · exact x_le (lv' := [none, none, none, none, none]) (xw_le_n (xw_le_n (xw_le_n (xw_le_n (xw_le_n xw_le_e))))) (kf hc)
theorem s_Model_alike_79 {G : xw_G} {F L bc bs : Nat} {pr : Option Value → xw_A → Prop} {px : String → xw_A → Prop} {h : xw_A}   (kr : pr (some (.int 0)) h) : xw G m_Model_alike F L bc bs pr px 79 [none, none, none, none, none] [] h := by
  refine x_iconst (v := 0) d_Model_alike_79 (by decide) ?_
  exact x_zret d_Model_alike_80 rfl rfl kr
theorem s_Model_alike_81 {G : xw_G} {F L bc bs : Nat} {pr : Option Value → xw_A → Prop} {px : String → xw_A → Prop} {h : xw_A} {a0 : Nat} {x1 : Int32} {x2 : Int32} {x3 : Int32} {x4 : Int32}  (k : xw G m_Model_alike F L bc bs pr px 36 [some (.ref a0), some (.int x1), some (.int x2), some (.int x3), some (.int (x4 + 1))] [] h) : xw G m_Model_alike F L bc bs pr px 81 [some (.ref a0), some (.int x1), some (.int x2), some (.int x3), some (.int x4)] [] h := by
  refine x_iinc (v := x4 + 1) d_Model_alike_81 rfl (by rfl) (by decide) rfl ?_
  show xw G m_Model_alike F L bc bs pr px 84 [some (.ref a0), some (.int x1), some (.int x2), some (.int x3), some (.int (x4 + 1))] [] h
  refine x_goto (tgt := 36) d_Model_alike_84 (by decide) ?_
  exact k
theorem s_Model_alike_87 {G : xw_G} {F L bc bs : Nat} {pr : Option Value → xw_A → Prop} {px : String → xw_A → Prop} {h : xw_A}   (kr : pr (some (.int 1)) h) : xw G m_Model_alike F L bc bs pr px 87 [none, none, none, none, none] [] h := by
  refine x_iconst (v := 1) d_Model_alike_87 (by decide) ?_
  exact x_zret d_Model_alike_88 rfl rfl kr
theorem s_Model_small_0 {G : xw_G} {F L bc bs : Nat} {pr : Option Value → xw_A → Prop} {px : String → xw_A → Prop} {h : xw_A} {x0 : Int32}  (k : xw G m_Model_small F L bc bs pr px 5 [some (.int x0)] [.int 90, .int 65, .int x0] h) : xw G m_Model_small F L bc bs pr px 0 [some (.int x0)] [] h := by
  refine x_iload_n d_Model_small_0 rfl rfl ?_
  refine x_bipush (v := 65) d_Model_small_1 (by decide) ?_
  refine x_bipush (v := 90) d_Model_small_3 (by decide) ?_
  exact k
theorem s_Model_small_8 {G : xw_G} {F L bc bs : Nat} {pr : Option Value → xw_A → Prop} {px : String → xw_A → Prop} {h : xw_A} {x0 : Int32} {y0 : Int32}  (kt : y0 = 0 → xw G m_Model_small F L bc bs pr px 18 [some (.int x0)] [] h) (kf : ¬ y0 = 0 → xw G m_Model_small F L bc bs pr px 11 [some (.int x0)] [] h) : xw G m_Model_small F L bc bs pr px 8 [some (.int x0)] [.int y0] h := by
  refine x_if_eq (tgt := 18) d_Model_small_8 (by decide) (fun hc => ?_) (fun hc => ?_)
  · exact kt hc
  · exact kf hc
theorem s_Model_small_11 {G : xw_G} {F L bc bs : Nat} {pr : Option Value → xw_A → Prop} {px : String → xw_A → Prop} {h : xw_A} {x0 : Int32}  (k : xw G m_Model_small F L bc bs pr px 19 [none] [.int (x0 + 32)] h) : xw G m_Model_small F L bc bs pr px 11 [some (.int x0)] [] h := by
  refine x_iload_n d_Model_small_11 rfl rfl ?_
  refine x_bipush (v := 32) d_Model_small_12 (by decide) ?_
  refine x_iadd d_Model_small_14 ?_
  refine x_goto (tgt := 19) d_Model_small_15 (by decide) ?_
  exact x_le (lv' := [none]) (xw_le_n xw_le_e) (k)
theorem s_Model_small_18 {G : xw_G} {F L bc bs : Nat} {pr : Option Value → xw_A → Prop} {px : String → xw_A → Prop} {h : xw_A} {x0 : Int32}  (k : xw G m_Model_small F L bc bs pr px 19 [none] [.int x0] h) : xw G m_Model_small F L bc bs pr px 18 [some (.int x0)] [] h := by
  refine x_iload_n d_Model_small_18 rfl rfl ?_
  exact x_le (lv' := [none]) (xw_le_n xw_le_e) (k)
theorem s_Model_small_19 {G : xw_G} {F L bc bs : Nat} {pr : Option Value → xw_A → Prop} {px : String → xw_A → Prop} {h : xw_A} {y0 : Int32}  (kr : pr (some (.int y0)) h) : xw G m_Model_small F L bc bs pr px 19 [none] [.int y0] h := by
  exact x_iret d_Model_small_19 rfl kr
theorem s_Model_pending_0 {G : xw_G} {F L bc bs : Nat} {pr : Option Value → xw_A → Prop} {px : String → xw_A → Prop} {h : xw_A} {a0 : Nat}  (k : xw G m_Model_pending F L bc bs pr px 4 [some (.ref a0), some (.int 0), some (.int 0)] [] h) : xw G m_Model_pending F L bc bs pr px 0 [some (.ref a0), none, none] [] h := by
  refine x_iconst (v := 0) d_Model_pending_0 (by decide) ?_
  refine x_istore_n d_Model_pending_1 rfl (by decide) rfl ?_
  show xw G m_Model_pending F L bc bs pr px 2 [some (.ref a0), some (.int 0), none] [] h
  refine x_iconst (v := 0) d_Model_pending_2 (by decide) ?_
  refine x_istore_n d_Model_pending_3 rfl (by decide) rfl ?_
  show xw G m_Model_pending F L bc bs pr px 4 [some (.ref a0), some (.int 0), some (.int 0)] [] h
  exact k
theorem s_Model_pending_4 {G : xw_G} {F L bc bs : Nat} {pr : Option Value → xw_A → Prop} {px : String → xw_A → Prop} {h : xw_A} {a0 : Nat} {x1 : Int32} {x2 : Int32} {fs_a0 : List Value} {versions_a0 : Int32} (l_a0 : fs_a0.length = 62) (e_a0 : h a0 = some (.inr (11, fs_a0))) (g_a0_versions : fs_a0[(15 : Nat)]? = some (.int versions_a0)) (kt : versions_a0 ≤ x2 → xw G m_Model_pending F L bc bs pr px 38 [none, some (.int x1), none] [] h) (kf : ¬ versions_a0 ≤ x2 → xw G m_Model_pending F L bc bs pr px 12 [some (.ref a0), some (.int x1), some (.int x2)] [] h) : xw G m_Model_pending F L bc bs pr px 4 [some (.ref a0), some (.int x1), some (.int x2)] [] h := by
  refine x_iload_n d_Model_pending_4 rfl rfl ?_
  refine x_aload_n d_Model_pending_5 rfl rfl ?_
  refine x_get d_Model_pending_6 f_Model_165 e_a0 g_a0_versions ?_
  refine x_icmp_ge (tgt := 38) d_Model_pending_9 (by decide) (fun hc => ?_) (fun hc => ?_)
  · exact x_le (lv' := [none, some (.int x1), none]) (xw_le_n (xw_le_s (xw_le_n xw_le_e))) (kt hc)
  · exact kf hc
theorem s_Model_pending_12 {G : xw_G} {F L bc bs : Nat} {pr : Option Value → xw_A → Prop} {px : String → xw_A → Prop} {h : xw_A} {a0 : Nat} {x1 : Int32} {x2 : Int32} {fs_a0 : List Value} {lies_a0 : Nat} {n_lies_a0 : Nat} {f_lies_a0 : Nat → Int32} (l_a0 : fs_a0.length = 62) (e_a0 : h a0 = some (.inr (11, fs_a0))) (g_a0_lies : fs_a0[(13 : Nat)]? = some (.ref lies_a0)) (e_lies_a0 : h lies_a0 = some (.inl (0, n_lies_a0, .inl f_lies_a0))) (i_17 : vp_in x2 n_lies_a0) (kt : ¬ (f_lies_a0 x2.toNatClampNeg) = ((-2)) → xw G m_Model_pending F L bc bs pr px 32 [some (.ref a0), some (.int x1), some (.int x2)] [] h) (kf : (f_lies_a0 x2.toNatClampNeg) = ((-2)) → xw G m_Model_pending F L bc bs pr px 23 [some (.ref a0), some (.int x1), some (.int x2)] [] h) : xw G m_Model_pending F L bc bs pr px 12 [some (.ref a0), some (.int x1), some (.int x2)] [] h := by
  refine x_aload_n d_Model_pending_12 rfl rfl ?_
  refine x_get d_Model_pending_13 f_Model_41 e_a0 g_a0_lies ?_
  refine x_iload_n d_Model_pending_16 rfl rfl ?_
  refine x_iald d_Model_pending_17 e_lies_a0 i_17 ?_
  refine x_bipush (v := -2) d_Model_pending_18 (by decide) ?_
  refine x_icmp_ne (tgt := 32) d_Model_pending_20 (by decide) (fun hc => ?_) (fun hc => ?_)
  · exact kt hc
  · exact kf hc
theorem s_Model_pending_23 {G : xw_G} {F L bc bs : Nat} {pr : Option Value → xw_A → Prop} {px : String → xw_A → Prop} {h : xw_A} {a0 : Nat} {x1 : Int32} {x2 : Int32} {fs_a0 : List Value} {entries_a0 : Nat} {n_entries_a0 : Nat} {f_entries_a0 : Nat → Int32} (l_a0 : fs_a0.length = 62) (e_a0 : h a0 = some (.inr (11, fs_a0))) (g_a0_entries : fs_a0[(12 : Nat)]? = some (.ref entries_a0)) (e_entries_a0 : h entries_a0 = some (.inl (0, n_entries_a0, .inl f_entries_a0))) (i_29 : vp_in x2 n_entries_a0) (k : xw G m_Model_pending F L bc bs pr px 32 [some (.ref a0), some (.int (x1 + (f_entries_a0 x2.toNatClampNeg))), some (.int x2)] [] h) : xw G m_Model_pending F L bc bs pr px 23 [some (.ref a0), some (.int x1), some (.int x2)] [] h := by
  refine x_iload_n d_Model_pending_23 rfl rfl ?_
  refine x_aload_n d_Model_pending_24 rfl rfl ?_
  refine x_get d_Model_pending_25 f_Model_38 e_a0 g_a0_entries ?_
  refine x_iload_n d_Model_pending_28 rfl rfl ?_
  refine x_iald d_Model_pending_29 e_entries_a0 i_29 ?_
  refine x_iadd d_Model_pending_30 ?_
  refine x_istore_n d_Model_pending_31 rfl (by decide) rfl ?_
  show xw G m_Model_pending F L bc bs pr px 32 [some (.ref a0), some (.int (x1 + (f_entries_a0 x2.toNatClampNeg))), some (.int x2)] [] h
  exact k
theorem s_Model_pending_32 {G : xw_G} {F L bc bs : Nat} {pr : Option Value → xw_A → Prop} {px : String → xw_A → Prop} {h : xw_A} {a0 : Nat} {x1 : Int32} {x2 : Int32}  (k : xw G m_Model_pending F L bc bs pr px 4 [some (.ref a0), some (.int x1), some (.int (x2 + 1))] [] h) : xw G m_Model_pending F L bc bs pr px 32 [some (.ref a0), some (.int x1), some (.int x2)] [] h := by
  refine x_iinc (v := x2 + 1) d_Model_pending_32 rfl (by rfl) (by decide) rfl ?_
  show xw G m_Model_pending F L bc bs pr px 35 [some (.ref a0), some (.int x1), some (.int (x2 + 1))] [] h
  refine x_goto (tgt := 4) d_Model_pending_35 (by decide) ?_
  exact k
theorem s_Model_pending_38 {G : xw_G} {F L bc bs : Nat} {pr : Option Value → xw_A → Prop} {px : String → xw_A → Prop} {h : xw_A} {x1 : Int32}  (kr : pr (some (.int x1)) h) : xw G m_Model_pending F L bc bs pr px 38 [none, some (.int x1), none] [] h := by
  refine x_iload_n d_Model_pending_38 rfl rfl ?_
  exact x_iret d_Model_pending_39 rfl kr
theorem s_Model_flushes_0 {G : xw_G} {F L bc bs : Nat} {pr : Option Value → xw_A → Prop} {px : String → xw_A → Prop} {h : xw_A} {a0 : Nat}  (k : xw G m_Model_flushes F L bc bs pr px 4 [some (.ref a0), none, none, none] [.int 0, .int ((-2)), .ref a0] h) : xw G m_Model_flushes F L bc bs pr px 0 [some (.ref a0), none, none, none] [] h := by
  refine x_aload_n d_Model_flushes_0 rfl rfl ?_
  refine x_bipush (v := -2) d_Model_flushes_1 (by decide) ?_
  refine x_iconst (v := 0) d_Model_flushes_3 (by decide) ?_
  exact k
theorem s_Model_flushes_7 {G : xw_G} {F L bc bs : Nat} {pr : Option Value → xw_A → Prop} {px : String → xw_A → Prop} {h : xw_A} {a0 : Nat}  (k : xw G m_Model_flushes F L bc bs pr px 9 [some (.ref a0), some (.int 0), none, none] [] h) : xw G m_Model_flushes F L bc bs pr px 7 [some (.ref a0), none, none, none] [] h := by
  refine x_iconst (v := 0) d_Model_flushes_7 (by decide) ?_
  refine x_istore_n d_Model_flushes_8 rfl (by decide) rfl ?_
  show xw G m_Model_flushes F L bc bs pr px 9 [some (.ref a0), some (.int 0), none, none] [] h
  exact k
theorem s_Model_flushes_9 {G : xw_G} {F L bc bs : Nat} {pr : Option Value → xw_A → Prop} {px : String → xw_A → Prop} {h : xw_A} {a0 : Nat} {x1 : Int32}  (kt : 5 ≤ x1 → xw G m_Model_flushes F L bc bs pr px 72 [none, none, none, none] [] h) (kf : ¬ 5 ≤ x1 → xw G m_Model_flushes F L bc bs pr px 14 [some (.ref a0), some (.int x1), none, none] [] h) : xw G m_Model_flushes F L bc bs pr px 9 [some (.ref a0), some (.int x1), none, none] [] h := by
  refine x_iload_n d_Model_flushes_9 rfl rfl ?_
  refine x_iconst (v := 5) d_Model_flushes_10 (by decide) ?_
  refine x_icmp_ge (tgt := 72) d_Model_flushes_11 (by decide) (fun hc => ?_) (fun hc => ?_)
  · exact x_le (lv' := [none, none, none, none]) (xw_le_n (xw_le_n (xw_le_n (xw_le_n xw_le_e)))) (kt hc)
  · exact kf hc
theorem s_Model_flushes_14 {G : xw_G} {F L bc bs : Nat} {pr : Option Value → xw_A → Prop} {px : String → xw_A → Prop} {h : xw_A} {a0 : Nat} {x1 : Int32}  (k : xw G m_Model_flushes F L bc bs pr px 18 [some (.ref a0), some (.int x1), some (.int 0), some (.int 0)] [] h) : xw G m_Model_flushes F L bc bs pr px 14 [some (.ref a0), some (.int x1), none, none] [] h := by
  refine x_iconst (v := 0) d_Model_flushes_14 (by decide) ?_
  refine x_istore_n d_Model_flushes_15 rfl (by decide) rfl ?_
  show xw G m_Model_flushes F L bc bs pr px 16 [some (.ref a0), some (.int x1), some (.int 0), none] [] h
  refine x_iconst (v := 0) d_Model_flushes_16 (by decide) ?_
  refine x_istore_n d_Model_flushes_17 rfl (by decide) rfl ?_
  show xw G m_Model_flushes F L bc bs pr px 18 [some (.ref a0), some (.int x1), some (.int 0), some (.int 0)] [] h
  exact k
theorem s_Model_flushes_18 {G : xw_G} {F L bc bs : Nat} {pr : Option Value → xw_A → Prop} {px : String → xw_A → Prop} {h : xw_A} {a0 : Nat} {x1 : Int32} {x2 : Int32} {x3 : Int32} {fs_a0 : List Value} {segments_a0 : Int32} (l_a0 : fs_a0.length = 62) (e_a0 : h a0 = some (.inr (11, fs_a0))) (g_a0_segments : fs_a0[(19 : Nat)]? = some (.int segments_a0)) (kt : segments_a0 ≤ x3 → xw G m_Model_flushes F L bc bs pr px 50 [some (.ref a0), some (.int x1), some (.int x2), none] [] h) (kf : ¬ segments_a0 ≤ x3 → xw G m_Model_flushes F L bc bs pr px 26 [some (.ref a0), some (.int x1), some (.int x2), some (.int x3)] [] h) : xw G m_Model_flushes F L bc bs pr px 18 [some (.ref a0), some (.int x1), some (.int x2), some (.int x3)] [] h := by
  refine x_iload_n d_Model_flushes_18 rfl rfl ?_
  refine x_aload_n d_Model_flushes_19 rfl rfl ?_
  refine x_get d_Model_flushes_20 f_Model_193 e_a0 g_a0_segments ?_
  refine x_icmp_ge (tgt := 50) d_Model_flushes_23 (by decide) (fun hc => ?_) (fun hc => ?_)
  · exact x_le (lv' := [some (.ref a0), some (.int x1), some (.int x2), none]) (xw_le_s (xw_le_s (xw_le_s (xw_le_n xw_le_e)))) (kt hc)
  · exact kf hc
theorem s_Model_flushes_26 {G : xw_G} {F L bc bs : Nat} {pr : Option Value → xw_A → Prop} {px : String → xw_A → Prop} {h : xw_A} {a0 : Nat} {x1 : Int32} {x2 : Int32} {x3 : Int32} {fs_a0 : List Value} {level_a0 : Nat} {row_a0 : Nat} {n_row_a0 : Nat} {f_row_a0 : Nat → Int32} {n_level_a0 : Nat} {f_level_a0 : Nat → Int32} (l_a0 : fs_a0.length = 62) (e_a0 : h a0 = some (.inr (11, fs_a0))) (g_a0_level : fs_a0[(18 : Nat)]? = some (.ref level_a0)) (g_a0_row : fs_a0[(17 : Nat)]? = some (.ref row_a0)) (e_row_a0 : h row_a0 = some (.inl (0, n_row_a0, .inl f_row_a0))) (i_35 : vp_in x3 n_row_a0) (e_level_a0 : h level_a0 = some (.inl (0, n_level_a0, .inl f_level_a0))) (i_36 : vp_in (f_row_a0 x3.toNatClampNeg) n_level_a0) (kt : ¬ (f_level_a0 (f_row_a0 x3.toNatClampNeg).toNatClampNeg) = x1 → xw G m_Model_flushes F L bc bs pr px 44 [some (.ref a0), some (.int x1), some (.int x2), some (.int x3)] [] h) (kf : (f_level_a0 (f_row_a0 x3.toNatClampNeg).toNatClampNeg) = x1 → xw G m_Model_flushes F L bc bs pr px 41 [some (.ref a0), some (.int x1), some (.int x2), some (.int x3)] [] h) : xw G m_Model_flushes F L bc bs pr px 26 [some (.ref a0), some (.int x1), some (.int x2), some (.int x3)] [] h := by
  refine x_aload_n d_Model_flushes_26 rfl rfl ?_
  refine x_get d_Model_flushes_27 f_Model_50 e_a0 g_a0_level ?_
  refine x_aload_n d_Model_flushes_30 rfl rfl ?_
  refine x_get d_Model_flushes_31 f_Model_47 e_a0 g_a0_row ?_
  refine x_iload_n d_Model_flushes_34 rfl rfl ?_
  refine x_iald d_Model_flushes_35 e_row_a0 i_35 ?_
  refine x_iald d_Model_flushes_36 e_level_a0 i_36 ?_
  refine x_iload_n d_Model_flushes_37 rfl rfl ?_
  refine x_icmp_ne (tgt := 44) d_Model_flushes_38 (by decide) (fun hc => ?_) (fun hc => ?_)
  · exact kt hc
  · exact kf hc
theorem s_Model_flushes_41 {G : xw_G} {F L bc bs : Nat} {pr : Option Value → xw_A → Prop} {px : String → xw_A → Prop} {h : xw_A} {a0 : Nat} {x1 : Int32} {x2 : Int32} {x3 : Int32}  (k : xw G m_Model_flushes F L bc bs pr px 44 [some (.ref a0), some (.int x1), some (.int (x2 + 1)), some (.int x3)] [] h) : xw G m_Model_flushes F L bc bs pr px 41 [some (.ref a0), some (.int x1), some (.int x2), some (.int x3)] [] h := by
  refine x_iinc (v := x2 + 1) d_Model_flushes_41 rfl (by rfl) (by decide) rfl ?_
  show xw G m_Model_flushes F L bc bs pr px 44 [some (.ref a0), some (.int x1), some (.int (x2 + 1)), some (.int x3)] [] h
  exact k
theorem s_Model_flushes_44 {G : xw_G} {F L bc bs : Nat} {pr : Option Value → xw_A → Prop} {px : String → xw_A → Prop} {h : xw_A} {a0 : Nat} {x1 : Int32} {x2 : Int32} {x3 : Int32}  (k : xw G m_Model_flushes F L bc bs pr px 18 [some (.ref a0), some (.int x1), some (.int x2), some (.int (x3 + 1))] [] h) : xw G m_Model_flushes F L bc bs pr px 44 [some (.ref a0), some (.int x1), some (.int x2), some (.int x3)] [] h := by
  refine x_iinc (v := x3 + 1) d_Model_flushes_44 rfl (by rfl) (by decide) rfl ?_
  show xw G m_Model_flushes F L bc bs pr px 47 [some (.ref a0), some (.int x1), some (.int x2), some (.int (x3 + 1))] [] h
  refine x_goto (tgt := 18) d_Model_flushes_47 (by decide) ?_
  exact k
theorem s_Model_flushes_50 {G : xw_G} {F L bc bs : Nat} {pr : Option Value → xw_A → Prop} {px : String → xw_A → Prop} {h : xw_A} {a0 : Nat} {x1 : Int32} {x2 : Int32} {fs_a0 : List Value} {most_a0 : Int32} (l_a0 : fs_a0.length = 62) (e_a0 : h a0 = some (.inr (11, fs_a0))) (g_a0_most : fs_a0[(1 : Nat)]? = some (.int most_a0)) (kt : x2 ≤ most_a0 → xw G m_Model_flushes F L bc bs pr px 66 [some (.ref a0), some (.int x1), none, none] [] h) (kf : ¬ x2 ≤ most_a0 → xw G m_Model_flushes F L bc bs pr px 58 [some (.ref a0), some (.int x1), none, none] [] h) : xw G m_Model_flushes F L bc bs pr px 50 [some (.ref a0), some (.int x1), some (.int x2), none] [] h := by
  refine x_iload_n d_Model_flushes_50 rfl rfl ?_
  refine x_aload_n d_Model_flushes_51 rfl rfl ?_
  refine x_get d_Model_flushes_52 f_Model_7 e_a0 g_a0_most ?_
  refine x_icmp_le (tgt := 66) d_Model_flushes_55 (by decide) (fun hc => ?_) (fun hc => ?_)
  · exact x_le (lv' := [some (.ref a0), some (.int x1), none, none]) (xw_le_s (xw_le_s (xw_le_n (xw_le_n xw_le_e)))) (kt hc)
  · exact x_le (lv' := [some (.ref a0), some (.int x1), none, none]) (xw_le_s (xw_le_s (xw_le_n (xw_le_n xw_le_e)))) (kf hc)
theorem s_Model_flushes_58 {G : xw_G} {F L bc bs : Nat} {pr : Option Value → xw_A → Prop} {px : String → xw_A → Prop} {h : xw_A} {a0 : Nat} {x1 : Int32}  (k : xw G m_Model_flushes F L bc bs pr px 63 [some (.ref a0), some (.int x1), none, none] [.int (x1 + 1), .int x1, .ref a0] h) : xw G m_Model_flushes F L bc bs pr px 58 [some (.ref a0), some (.int x1), none, none] [] h := by
  refine x_aload_n d_Model_flushes_58 rfl rfl ?_
  refine x_iload_n d_Model_flushes_59 rfl rfl ?_
  refine x_iload_n d_Model_flushes_60 rfl rfl ?_
  refine x_iconst (v := 1) d_Model_flushes_61 (by decide) ?_
  refine x_iadd d_Model_flushes_62 ?_
  exact k
theorem s_Model_flushes_66 {G : xw_G} {F L bc bs : Nat} {pr : Option Value → xw_A → Prop} {px : String → xw_A → Prop} {h : xw_A} {a0 : Nat} {x1 : Int32}  (k : xw G m_Model_flushes F L bc bs pr px 9 [some (.ref a0), some (.int (x1 + 1)), none, none] [] h) : xw G m_Model_flushes F L bc bs pr px 66 [some (.ref a0), some (.int x1), none, none] [] h := by
  refine x_iinc (v := x1 + 1) d_Model_flushes_66 rfl (by rfl) (by decide) rfl ?_
  show xw G m_Model_flushes F L bc bs pr px 69 [some (.ref a0), some (.int (x1 + 1)), none, none] [] h
  refine x_goto (tgt := 9) d_Model_flushes_69 (by decide) ?_
  exact k
theorem s_Model_flushes_72 {G : xw_G} {F L bc bs : Nat} {pr : Option Value → xw_A → Prop} {px : String → xw_A → Prop} {h : xw_A}   (kr : pr none h) : xw G m_Model_flushes F L bc bs pr px 72 [none, none, none, none] [] h := by
  exact x_vret d_Model_flushes_72 rfl kr
theorem s_Model_gathers_0 {G : xw_G} {F L bc bs : Nat} {pr : Option Value → xw_A → Prop} {px : String → xw_A → Prop} {h : xw_A} {a0 : Nat} {x1 : Int32} {x2 : Int32} {fs_a0 : List Value} {made_a0 : Int32} (l_a0 : fs_a0.length = 62) (e_a0 : h a0 = some (.inr (11, fs_a0))) (g_a0_made : fs_a0[(16 : Nat)]? = some (.int made_a0)) (k : xw G m_Model_gathers F L bc bs pr px 11 [some (.ref a0), some (.int x1), some (.int x2), some (.int made_a0), some (.int 0), some (.int 0), none, none] [] h) : xw G m_Model_gathers F L bc bs pr px 0 [some (.ref a0), some (.int x1), some (.int x2), none, none, none, none, none] [] h := by
  refine x_aload_n d_Model_gathers_0 rfl rfl ?_
  refine x_get d_Model_gathers_1 f_Model_187 e_a0 g_a0_made ?_
  refine x_istore_n d_Model_gathers_4 rfl (by decide) rfl ?_
  show xw G m_Model_gathers F L bc bs pr px 5 [some (.ref a0), some (.int x1), some (.int x2), some (.int made_a0), none, none, none, none] [] h
  refine x_iconst (v := 0) d_Model_gathers_5 (by decide) ?_
  refine x_istore d_Model_gathers_6 (by decide) rfl ?_
  show xw G m_Model_gathers F L bc bs pr px 8 [some (.ref a0), some (.int x1), some (.int x2), some (.int made_a0), some (.int 0), none, none, none] [] h
  refine x_iconst (v := 0) d_Model_gathers_8 (by decide) ?_
  refine x_istore d_Model_gathers_9 (by decide) rfl ?_
  show xw G m_Model_gathers F L bc bs pr px 11 [some (.ref a0), some (.int x1), some (.int x2), some (.int made_a0), some (.int 0), some (.int 0), none, none] [] h
  exact k
theorem s_Model_gathers_11 {G : xw_G} {F L bc bs : Nat} {pr : Option Value → xw_A → Prop} {px : String → xw_A → Prop} {h : xw_A} {a0 : Nat} {x1 : Int32} {x2 : Int32} {x3 : Int32} {x4 : Int32} {x5 : Int32} {fs_a0 : List Value} {versions_a0 : Int32} (l_a0 : fs_a0.length = 62) (e_a0 : h a0 = some (.inr (11, fs_a0))) (g_a0_versions : fs_a0[(15 : Nat)]? = some (.int versions_a0)) (kt : versions_a0 ≤ x5 → xw G m_Model_gathers F L bc bs pr px 148 [some (.ref a0), some (.int x1), some (.int x2), some (.int x3), some (.int x4), none, none, none] [] h) (kf : ¬ versions_a0 ≤ x5 → xw G m_Model_gathers F L bc bs pr px 20 [some (.ref a0), some (.int x1), some (.int x2), some (.int x3), some (.int x4), some (.int x5), none, none] [] h) : xw G m_Model_gathers F L bc bs pr px 11 [some (.ref a0), some (.int x1), some (.int x2), some (.int x3), some (.int x4), some (.int x5), none, none] [] h := by
  refine x_iload d_Model_gathers_11 rfl ?_
  refine x_aload_n d_Model_gathers_13 rfl rfl ?_
  refine x_get d_Model_gathers_14 f_Model_165 e_a0 g_a0_versions ?_
  refine x_icmp_ge (tgt := 148) d_Model_gathers_17 (by decide) (fun hc => ?_) (fun hc => ?_)
  · exact x_le (lv' := [some (.ref a0), some (.int x1), some (.int x2), some (.int x3), some (.int x4), none, none, none]) (xw_le_s (xw_le_s (xw_le_s (xw_le_s (xw_le_s (xw_le_n (xw_le_n (xw_le_n xw_le_e)))))))) (kt hc)
  · exact kf hc
theorem s_Model_gathers_20 {G : xw_G} {F L bc bs : Nat} {pr : Option Value → xw_A → Prop} {px : String → xw_A → Prop} {h : xw_A} {a0 : Nat} {x1 : Int32} {x2 : Int32} {x3 : Int32} {x4 : Int32} {x5 : Int32}  (kt : ¬ x1 = ((-2)) → xw G m_Model_gathers F L bc bs pr px 46 [some (.ref a0), some (.int x1), some (.int x2), some (.int x3), some (.int x4), some (.int x5), none, none] [] h) (kf : x1 = ((-2)) → xw G m_Model_gathers F L bc bs pr px 26 [some (.ref a0), some (.int x1), some (.int x2), some (.int x3), some (.int x4), some (.int x5), none, none] [] h) : xw G m_Model_gathers F L bc bs pr px 20 [some (.ref a0), some (.int x1), some (.int x2), some (.int x3), some (.int x4), some (.int x5), none, none] [] h := by
  refine x_iload_n d_Model_gathers_20 rfl rfl ?_
  refine x_bipush (v := -2) d_Model_gathers_21 (by decide) ?_
  refine x_icmp_ne (tgt := 46) d_Model_gathers_23 (by decide) (fun hc => ?_) (fun hc => ?_)
  · exact kt hc
  · exact kf hc
theorem s_Model_gathers_26 {G : xw_G} {F L bc bs : Nat} {pr : Option Value → xw_A → Prop} {px : String → xw_A → Prop} {h : xw_A} {a0 : Nat} {x1 : Int32} {x2 : Int32} {x3 : Int32} {x4 : Int32} {x5 : Int32} {fs_a0 : List Value} {lies_a0 : Nat} {n_lies_a0 : Nat} {f_lies_a0 : Nat → Int32} (l_a0 : fs_a0.length = 62) (e_a0 : h a0 = some (.inr (11, fs_a0))) (g_a0_lies : fs_a0[(13 : Nat)]? = some (.ref lies_a0)) (e_lies_a0 : h lies_a0 = some (.inl (0, n_lies_a0, .inl f_lies_a0))) (i_32 : vp_in x5 n_lies_a0) (kt : ¬ (f_lies_a0 x5.toNatClampNeg) = ((-2)) → xw G m_Model_gathers F L bc bs pr px 42 [some (.ref a0), some (.int x1), some (.int x2), some (.int x3), some (.int x4), some (.int x5), none, none] [] h) (kf : (f_lies_a0 x5.toNatClampNeg) = ((-2)) → xw G m_Model_gathers F L bc bs pr px 38 [some (.ref a0), some (.int x1), some (.int x2), some (.int x3), some (.int x4), some (.int x5), none, none] [] h) : xw G m_Model_gathers F L bc bs pr px 26 [some (.ref a0), some (.int x1), some (.int x2), some (.int x3), some (.int x4), some (.int x5), none, none] [] h := by
  refine x_aload_n d_Model_gathers_26 rfl rfl ?_
  refine x_get d_Model_gathers_27 f_Model_41 e_a0 g_a0_lies ?_
  refine x_iload d_Model_gathers_30 rfl ?_
  refine x_iald d_Model_gathers_32 e_lies_a0 i_32 ?_
  refine x_bipush (v := -2) d_Model_gathers_33 (by decide) ?_
  refine x_icmp_ne (tgt := 42) d_Model_gathers_35 (by decide) (fun hc => ?_) (fun hc => ?_)
  · exact kt hc
  · exact kf hc
theorem s_Model_gathers_38 {G : xw_G} {F L bc bs : Nat} {pr : Option Value → xw_A → Prop} {px : String → xw_A → Prop} {h : xw_A} {a0 : Nat} {x1 : Int32} {x2 : Int32} {x3 : Int32} {x4 : Int32} {x5 : Int32}  (k : xw G m_Model_gathers F L bc bs pr px 81 [some (.ref a0), some (.int x1), some (.int x2), some (.int x3), some (.int x4), some (.int x5), none, none] [.int 1] h) : xw G m_Model_gathers F L bc bs pr px 38 [some (.ref a0), some (.int x1), some (.int x2), some (.int x3), some (.int x4), some (.int x5), none, none] [] h := by
  refine x_iconst (v := 1) d_Model_gathers_38 (by decide) ?_
  refine x_goto (tgt := 81) d_Model_gathers_39 (by decide) ?_
  exact k
theorem s_Model_gathers_42 {G : xw_G} {F L bc bs : Nat} {pr : Option Value → xw_A → Prop} {px : String → xw_A → Prop} {h : xw_A} {a0 : Nat} {x1 : Int32} {x2 : Int32} {x3 : Int32} {x4 : Int32} {x5 : Int32}  (k : xw G m_Model_gathers F L bc bs pr px 81 [some (.ref a0), some (.int x1), some (.int x2), some (.int x3), some (.int x4), some (.int x5), none, none] [.int 0] h) : xw G m_Model_gathers F L bc bs pr px 42 [some (.ref a0), some (.int x1), some (.int x2), some (.int x3), some (.int x4), some (.int x5), none, none] [] h := by
  refine x_iconst (v := 0) d_Model_gathers_42 (by decide) ?_
  refine x_goto (tgt := 81) d_Model_gathers_43 (by decide) ?_
  exact k
theorem s_Model_gathers_46 {G : xw_G} {F L bc bs : Nat} {pr : Option Value → xw_A → Prop} {px : String → xw_A → Prop} {h : xw_A} {a0 : Nat} {x1 : Int32} {x2 : Int32} {x3 : Int32} {x4 : Int32} {x5 : Int32} {fs_a0 : List Value} {lies_a0 : Nat} {n_lies_a0 : Nat} {f_lies_a0 : Nat → Int32} (l_a0 : fs_a0.length = 62) (e_a0 : h a0 = some (.inr (11, fs_a0))) (g_a0_lies : fs_a0[(13 : Nat)]? = some (.ref lies_a0)) (e_lies_a0 : h lies_a0 = some (.inl (0, n_lies_a0, .inl f_lies_a0))) (i_52 : vp_in x5 n_lies_a0) (kt : (f_lies_a0 x5.toNatClampNeg) < 0 → xw G m_Model_gathers F L bc bs pr px 80 [some (.ref a0), some (.int x1), some (.int x2), some (.int x3), some (.int x4), some (.int x5), none, none] [] h) (kf : ¬ (f_lies_a0 x5.toNatClampNeg) < 0 → xw G m_Model_gathers F L bc bs pr px 56 [some (.ref a0), some (.int x1), some (.int x2), some (.int x3), some (.int x4), some (.int x5), none, none] [] h) : xw G m_Model_gathers F L bc bs pr px 46 [some (.ref a0), some (.int x1), some (.int x2), some (.int x3), some (.int x4), some (.int x5), none, none] [] h := by
  refine x_aload_n d_Model_gathers_46 rfl rfl ?_
  refine x_get d_Model_gathers_47 f_Model_41 e_a0 g_a0_lies ?_
  refine x_iload d_Model_gathers_50 rfl ?_
  refine x_iald d_Model_gathers_52 e_lies_a0 i_52 ?_
  refine x_if_lt (tgt := 80) d_Model_gathers_53 (by decide) (fun hc => ?_) (fun hc => ?_)
  · exact kt hc
  · exact kf hc
theorem s_Model_gathers_56 {G : xw_G} {F L bc bs : Nat} {pr : Option Value → xw_A → Prop} {px : String → xw_A → Prop} {h : xw_A} {a0 : Nat} {x1 : Int32} {x2 : Int32} {x3 : Int32} {x4 : Int32} {x5 : Int32}  (kt : x1 < 0 → xw G m_Model_gathers F L bc bs pr px 76 [some (.ref a0), some (.int x1), some (.int x2), some (.int x3), some (.int x4), some (.int x5), none, none] [] h) (kf : ¬ x1 < 0 → xw G m_Model_gathers F L bc bs pr px 60 [some (.ref a0), some (.int x1), some (.int x2), some (.int x3), some (.int x4), some (.int x5), none, none] [] h) : xw G m_Model_gathers F L bc bs pr px 56 [some (.ref a0), some (.int x1), some (.int x2), some (.int x3), some (.int x4), some (.int x5), none, none] [] h := by
  refine x_iload_n d_Model_gathers_56 rfl rfl ?_
  refine x_if_lt (tgt := 76) d_Model_gathers_57 (by decide) (fun hc => ?_) (fun hc => ?_)
  · exact kt hc
  · exact kf hc
theorem s_Model_gathers_60 {G : xw_G} {F L bc bs : Nat} {pr : Option Value → xw_A → Prop} {px : String → xw_A → Prop} {h : xw_A} {a0 : Nat} {x1 : Int32} {x2 : Int32} {x3 : Int32} {x4 : Int32} {x5 : Int32} {fs_a0 : List Value} {level_a0 : Nat} {lies_a0 : Nat} {n_lies_a0 : Nat} {f_lies_a0 : Nat → Int32} {n_level_a0 : Nat} {f_level_a0 : Nat → Int32} (l_a0 : fs_a0.length = 62) (e_a0 : h a0 = some (.inr (11, fs_a0))) (g_a0_level : fs_a0[(18 : Nat)]? = some (.ref level_a0)) (g_a0_lies : fs_a0[(13 : Nat)]? = some (.ref lies_a0)) (e_lies_a0 : h lies_a0 = some (.inl (0, n_lies_a0, .inl f_lies_a0))) (i_70 : vp_in x5 n_lies_a0) (e_level_a0 : h level_a0 = some (.inl (0, n_level_a0, .inl f_level_a0))) (i_71 : vp_in (f_lies_a0 x5.toNatClampNeg) n_level_a0) (kt : ¬ (f_level_a0 (f_lies_a0 x5.toNatClampNeg).toNatClampNeg) = x1 → xw G m_Model_gathers F L bc bs pr px 80 [some (.ref a0), some (.int x1), some (.int x2), some (.int x3), some (.int x4), some (.int x5), none, none] [] h) (kf : (f_level_a0 (f_lies_a0 x5.toNatClampNeg).toNatClampNeg) = x1 → xw G m_Model_gathers F L bc bs pr px 76 [some (.ref a0), some (.int x1), some (.int x2), some (.int x3), some (.int x4), some (.int x5), none, none] [] h) : xw G m_Model_gathers F L bc bs pr px 60 [some (.ref a0), some (.int x1), some (.int x2), some (.int x3), some (.int x4), some (.int x5), none, none] [] h := by
  refine x_aload_n d_Model_gathers_60 rfl rfl ?_
  refine x_get d_Model_gathers_61 f_Model_50 e_a0 g_a0_level ?_
  refine x_aload_n d_Model_gathers_64 rfl rfl ?_
  refine x_get d_Model_gathers_65 f_Model_41 e_a0 g_a0_lies ?_
  refine x_iload d_Model_gathers_68 rfl ?_
  refine x_iald d_Model_gathers_70 e_lies_a0 i_70 ?_
  refine x_iald d_Model_gathers_71 e_level_a0 i_71 ?_
  refine x_iload_n d_Model_gathers_72 rfl rfl ?_
  refine x_icmp_ne (tgt := 80) d_Model_gathers_73 (by decide) (fun hc => ?_) (fun hc => ?_)
  · exact kt hc
  · exact kf hc
theorem s_Model_gathers_76 {G : xw_G} {F L bc bs : Nat} {pr : Option Value → xw_A → Prop} {px : String → xw_A → Prop} {h : xw_A} {a0 : Nat} {x1 : Int32} {x2 : Int32} {x3 : Int32} {x4 : Int32} {x5 : Int32}  (k : xw G m_Model_gathers F L bc bs pr px 81 [some (.ref a0), some (.int x1), some (.int x2), some (.int x3), some (.int x4), some (.int x5), none, none] [.int 1] h) : xw G m_Model_gathers F L bc bs pr px 76 [some (.ref a0), some (.int x1), some (.int x2), some (.int x3), some (.int x4), some (.int x5), none, none] [] h := by
  refine x_iconst (v := 1) d_Model_gathers_76 (by decide) ?_
  refine x_goto (tgt := 81) d_Model_gathers_77 (by decide) ?_
  exact k
theorem s_Model_gathers_80 {G : xw_G} {F L bc bs : Nat} {pr : Option Value → xw_A → Prop} {px : String → xw_A → Prop} {h : xw_A} {a0 : Nat} {x1 : Int32} {x2 : Int32} {x3 : Int32} {x4 : Int32} {x5 : Int32}  (k : xw G m_Model_gathers F L bc bs pr px 81 [some (.ref a0), some (.int x1), some (.int x2), some (.int x3), some (.int x4), some (.int x5), none, none] [.int 0] h) : xw G m_Model_gathers F L bc bs pr px 80 [some (.ref a0), some (.int x1), some (.int x2), some (.int x3), some (.int x4), some (.int x5), none, none] [] h := by
  refine x_iconst (v := 0) d_Model_gathers_80 (by decide) ?_
  exact k
theorem s_Model_gathers_81 {G : xw_G} {F L bc bs : Nat} {pr : Option Value → xw_A → Prop} {px : String → xw_A → Prop} {h : xw_A} {a0 : Nat} {x1 : Int32} {x2 : Int32} {x3 : Int32} {x4 : Int32} {x5 : Int32} {y0 : Int32}  (kt : ¬ y0 = 0 → xw G m_Model_gathers F L bc bs pr px 91 [some (.ref a0), some (.int x1), some (.int x2), some (.int x3), some (.int x4), some (.int x5), none, none] [] h) (kf : y0 = 0 → xw G m_Model_gathers F L bc bs pr px 88 [some (.ref a0), some (.int x1), some (.int x2), some (.int x3), some (.int x4), some (.int x5), none, none] [] h) : xw G m_Model_gathers F L bc bs pr px 81 [some (.ref a0), some (.int x1), some (.int x2), some (.int x3), some (.int x4), some (.int x5), none, none] [.int y0] h := by
  refine x_istore d_Model_gathers_81 (by decide) rfl ?_
  show xw G m_Model_gathers F L bc bs pr px 83 [some (.ref a0), some (.int x1), some (.int x2), some (.int x3), some (.int x4), some (.int x5), some (.int y0), none] [] h
  refine x_iload d_Model_gathers_83 rfl ?_
  refine x_if_ne (tgt := 91) d_Model_gathers_85 (by decide) (fun hc => ?_) (fun hc => ?_)
  · exact x_le (lv' := [some (.ref a0), some (.int x1), some (.int x2), some (.int x3), some (.int x4), some (.int x5), none, none]) (xw_le_s (xw_le_s (xw_le_s (xw_le_s (xw_le_s (xw_le_s (xw_le_n (xw_le_n xw_le_e)))))))) (kt hc)
  · exact x_le (lv' := [some (.ref a0), some (.int x1), some (.int x2), some (.int x3), some (.int x4), some (.int x5), none, none]) (xw_le_s (xw_le_s (xw_le_s (xw_le_s (xw_le_s (xw_le_s (xw_le_n (xw_le_n xw_le_e)))))))) (kf hc)
theorem s_Model_gathers_88 {G : xw_G} {F L bc bs : Nat} {pr : Option Value → xw_A → Prop} {px : String → xw_A → Prop} {h : xw_A} {a0 : Nat} {x1 : Int32} {x2 : Int32} {x3 : Int32} {x4 : Int32} {x5 : Int32}  (k : xw G m_Model_gathers F L bc bs pr px 142 [some (.ref a0), some (.int x1), some (.int x2), some (.int x3), some (.int x4), some (.int x5), none, none] [] h) : xw G m_Model_gathers F L bc bs pr px 88 [some (.ref a0), some (.int x1), some (.int x2), some (.int x3), some (.int x4), some (.int x5), none, none] [] h := by
  refine x_goto (tgt := 142) d_Model_gathers_88 (by decide) ?_
  exact k
theorem s_Model_gathers_91 {G : xw_G} {F L bc bs : Nat} {pr : Option Value → xw_A → Prop} {px : String → xw_A → Prop} {h : xw_A} {a0 : Nat} {x1 : Int32} {x2 : Int32} {x3 : Int32} {x4 : Int32} {x5 : Int32}  (k : xw G m_Model_gathers F L bc bs pr px 94 [some (.ref a0), some (.int x1), some (.int x2), some (.int x3), some (.int x4), some (.int x5), none, none] [.int x5, .ref a0] h) : xw G m_Model_gathers F L bc bs pr px 91 [some (.ref a0), some (.int x1), some (.int x2), some (.int x3), some (.int x4), some (.int x5), none, none] [] h := by
  refine x_aload_n d_Model_gathers_91 rfl rfl ?_
  refine x_iload d_Model_gathers_92 rfl ?_
  exact k
theorem s_Model_gathers_97 {G : xw_G} {F L bc bs : Nat} {pr : Option Value → xw_A → Prop} {px : String → xw_A → Prop} {h : xw_A} {a0 : Nat} {x1 : Int32} {x2 : Int32} {x3 : Int32} {x4 : Int32} {x5 : Int32} {y0 : Int32}  (kt : y0 = 0 → xw G m_Model_gathers F L bc bs pr px 114 [some (.ref a0), some (.int x1), some (.int x2), some (.int x3), some (.int x4), some (.int x5), none, none] [] h) (kf : ¬ y0 = 0 → xw G m_Model_gathers F L bc bs pr px 100 [some (.ref a0), some (.int x1), some (.int x2), some (.int x3), some (.int x4), some (.int x5), none, none] [] h) : xw G m_Model_gathers F L bc bs pr px 97 [some (.ref a0), some (.int x1), some (.int x2), some (.int x3), some (.int x4), some (.int x5), none, none] [.int y0] h := by
  refine x_if_eq (tgt := 114) d_Model_gathers_97 (by decide) (fun hc => ?_) (fun hc => ?_)
  · exact kt hc
  · exact kf hc
theorem s_Model_gathers_100 {G : xw_G} {F L bc bs : Nat} {pr : Option Value → xw_A → Prop} {px : String → xw_A → Prop} {h : xw_A} {a0 : Nat} {x1 : Int32} {x2 : Int32} {x3 : Int32} {x4 : Int32} {x5 : Int32} {fs_a0 : List Value} {entries_a0 : Nat} {n_entries_a0 : Nat} {f_entries_a0 : Nat → Int32} (l_a0 : fs_a0.length = 62) (e_a0 : h a0 = some (.inr (11, fs_a0))) (g_a0_entries : fs_a0[(12 : Nat)]? = some (.ref entries_a0)) (e_entries_a0 : h entries_a0 = some (.inl (0, n_entries_a0, .inl f_entries_a0))) (i_106 : vp_in x5 n_entries_a0) (kt : (f_entries_a0 x5.toNatClampNeg) ≤ 0 → xw G m_Model_gathers F L bc bs pr px 114 [some (.ref a0), some (.int x1), some (.int x2), some (.int x3), some (.int x4), some (.int x5), none, none] [] h) (kf : ¬ (f_entries_a0 x5.toNatClampNeg) ≤ 0 → xw G m_Model_gathers F L bc bs pr px 110 [some (.ref a0), some (.int x1), some (.int x2), some (.int x3), some (.int x4), some (.int x5), none, none] [] h) : xw G m_Model_gathers F L bc bs pr px 100 [some (.ref a0), some (.int x1), some (.int x2), some (.int x3), some (.int x4), some (.int x5), none, none] [] h := by
  refine x_aload_n d_Model_gathers_100 rfl rfl ?_
  refine x_get d_Model_gathers_101 f_Model_38 e_a0 g_a0_entries ?_
  refine x_iload d_Model_gathers_104 rfl ?_
  refine x_iald d_Model_gathers_106 e_entries_a0 i_106 ?_
  refine x_if_le (tgt := 114) d_Model_gathers_107 (by decide) (fun hc => ?_) (fun hc => ?_)
  · exact kt hc
  · exact kf hc
theorem s_Model_gathers_110 {G : xw_G} {F L bc bs : Nat} {pr : Option Value → xw_A → Prop} {px : String → xw_A → Prop} {h : xw_A} {a0 : Nat} {x1 : Int32} {x2 : Int32} {x3 : Int32} {x4 : Int32} {x5 : Int32}  (k : xw G m_Model_gathers F L bc bs pr px 115 [some (.ref a0), some (.int x1), some (.int x2), some (.int x3), some (.int x4), some (.int x5), none, none] [.int 1] h) : xw G m_Model_gathers F L bc bs pr px 110 [some (.ref a0), some (.int x1), some (.int x2), some (.int x3), some (.int x4), some (.int x5), none, none] [] h := by
  refine x_iconst (v := 1) d_Model_gathers_110 (by decide) ?_
  refine x_goto (tgt := 115) d_Model_gathers_111 (by decide) ?_
  exact k
theorem s_Model_gathers_114 {G : xw_G} {F L bc bs : Nat} {pr : Option Value → xw_A → Prop} {px : String → xw_A → Prop} {h : xw_A} {a0 : Nat} {x1 : Int32} {x2 : Int32} {x3 : Int32} {x4 : Int32} {x5 : Int32}  (k : xw G m_Model_gathers F L bc bs pr px 115 [some (.ref a0), some (.int x1), some (.int x2), some (.int x3), some (.int x4), some (.int x5), none, none] [.int 0] h) : xw G m_Model_gathers F L bc bs pr px 114 [some (.ref a0), some (.int x1), some (.int x2), some (.int x3), some (.int x4), some (.int x5), none, none] [] h := by
  refine x_iconst (v := 0) d_Model_gathers_114 (by decide) ?_
  exact k
theorem s_Model_gathers_115 {G : xw_G} {F L bc bs : Nat} {pr : Option Value → xw_A → Prop} {px : String → xw_A → Prop} {h : xw_A} {a0 : Nat} {x1 : Int32} {x2 : Int32} {x3 : Int32} {x4 : Int32} {x5 : Int32} {y0 : Int32} {fs_a0 : List Value} {lies_a0 : Option Nat} (l_a0 : fs_a0.length = 62) (e_a0 : h a0 = some (.inr (11, fs_a0))) (g_a0_lies : fs_a0[(13 : Nat)]? = some (va_rf lies_a0)) (kt : y0 = 0 → xw G m_Model_gathers F L bc bs pr px 132 [some (.ref a0), some (.int x1), some (.int x2), some (.int x3), some (.int x4), some (.int x5), none, some (.int y0)] [.int x5, va_rf lies_a0] h) (kf : ¬ y0 = 0 → xw G m_Model_gathers F L bc bs pr px 128 [some (.ref a0), some (.int x1), some (.int x2), some (.int x3), some (.int x4), some (.int x5), none, some (.int y0)] [.int x5, va_rf lies_a0] h) : xw G m_Model_gathers F L bc bs pr px 115 [some (.ref a0), some (.int x1), some (.int x2), some (.int x3), some (.int x4), some (.int x5), none, none] [.int y0] h := by
  refine x_istore d_Model_gathers_115 (by decide) trivial ?_
  show xw G m_Model_gathers F L bc bs pr px 117 [some (.ref a0), some (.int x1), some (.int x2), some (.int x3), some (.int x4), some (.int x5), none, some (.int y0)] [] h
  refine x_aload_n d_Model_gathers_117 rfl rfl ?_
  refine x_get d_Model_gathers_118 f_Model_41 e_a0 g_a0_lies ?_
  refine x_iload d_Model_gathers_121 rfl ?_
  refine x_iload d_Model_gathers_123 rfl ?_
  refine x_if_eq (tgt := 132) d_Model_gathers_125 (by decide) (fun hc => ?_) (fun hc => ?_)
  · exact kt hc
  · exact kf hc
theorem s_Model_gathers_128 {G : xw_G} {F L bc bs : Nat} {pr : Option Value → xw_A → Prop} {px : String → xw_A → Prop} {h : xw_A} {a0 : Nat} {x1 : Int32} {x2 : Int32} {x3 : Int32} {x4 : Int32} {x5 : Int32} {x7 : Int32} {b1 : Nat}  (k : xw G m_Model_gathers F L bc bs pr px 133 [some (.ref a0), some (.int x1), some (.int x2), some (.int x3), some (.int x4), some (.int x5), none, some (.int x7)] [.int x3, .int x5, .ref b1] h) : xw G m_Model_gathers F L bc bs pr px 128 [some (.ref a0), some (.int x1), some (.int x2), some (.int x3), some (.int x4), some (.int x5), none, some (.int x7)] [.int x5, .ref b1] h := by
  refine x_iload_n d_Model_gathers_128 rfl rfl ?_
  refine x_goto (tgt := 133) d_Model_gathers_129 (by decide) ?_
  exact k
theorem s_Model_gathers_132 {G : xw_G} {F L bc bs : Nat} {pr : Option Value → xw_A → Prop} {px : String → xw_A → Prop} {h : xw_A} {a0 : Nat} {x1 : Int32} {x2 : Int32} {x3 : Int32} {x4 : Int32} {x5 : Int32} {x7 : Int32} {b1 : Nat}  (k : xw G m_Model_gathers F L bc bs pr px 133 [some (.ref a0), some (.int x1), some (.int x2), some (.int x3), some (.int x4), some (.int x5), none, some (.int x7)] [.int ((-1)), .int x5, .ref b1] h) : xw G m_Model_gathers F L bc bs pr px 132 [some (.ref a0), some (.int x1), some (.int x2), some (.int x3), some (.int x4), some (.int x5), none, some (.int x7)] [.int x5, .ref b1] h := by
  refine x_iconst (v := -1) d_Model_gathers_132 (by decide) ?_
  exact k
theorem s_Model_gathers_133 {G : xw_G} {F L bc bs : Nat} {pr : Option Value → xw_A → Prop} {px : String → xw_A → Prop} {h : xw_A} {a0 : Nat} {x1 : Int32} {x2 : Int32} {x3 : Int32} {x4 : Int32} {x5 : Int32} {x7 : Int32} {y0 : Int32} {b2 : Nat} {n_b2 : Nat} {f_b2 : Nat → Int32} (e_b2 : h b2 = some (.inl (0, n_b2, .inl f_b2))) (i_133 : vp_in x5 n_b2) (kt : x7 = 0 → xw G m_Model_gathers F L bc bs pr px 142 [some (.ref a0), some (.int x1), some (.int x2), some (.int x3), some (.int x4), some (.int x5), none, none] [] (xw_up h b2 (.inl (0, n_b2, .inl (upd f_b2 (x5).toNatClampNeg y0))))) (kf : ¬ x7 = 0 → xw G m_Model_gathers F L bc bs pr px 139 [some (.ref a0), some (.int x1), some (.int x2), some (.int x3), some (.int x4), some (.int x5), none, none] [] (xw_up h b2 (.inl (0, n_b2, .inl (upd f_b2 (x5).toNatClampNeg y0))))) : xw G m_Model_gathers F L bc bs pr px 133 [some (.ref a0), some (.int x1), some (.int x2), some (.int x3), some (.int x4), some (.int x5), none, some (.int x7)] [.int y0, .int x5, .ref b2] h := by
  refine x_iast d_Model_gathers_133 e_b2 i_133 ?_
  refine x_iload d_Model_gathers_134 rfl ?_
  refine x_if_eq (tgt := 142) d_Model_gathers_136 (by decide) (fun hc => ?_) (fun hc => ?_)
  · exact x_le (lv' := [some (.ref a0), some (.int x1), some (.int x2), some (.int x3), some (.int x4), some (.int x5), none, none]) (xw_le_s (xw_le_s (xw_le_s (xw_le_s (xw_le_s (xw_le_s (xw_le_n (xw_le_n xw_le_e)))))))) (kt hc)
  · exact x_le (lv' := [some (.ref a0), some (.int x1), some (.int x2), some (.int x3), some (.int x4), some (.int x5), none, none]) (xw_le_s (xw_le_s (xw_le_s (xw_le_s (xw_le_s (xw_le_s (xw_le_n (xw_le_n xw_le_e)))))))) (kf hc)
theorem s_Model_gathers_139 {G : xw_G} {F L bc bs : Nat} {pr : Option Value → xw_A → Prop} {px : String → xw_A → Prop} {h : xw_A} {a0 : Nat} {x1 : Int32} {x2 : Int32} {x3 : Int32} {x4 : Int32} {x5 : Int32}  (k : xw G m_Model_gathers F L bc bs pr px 142 [some (.ref a0), some (.int x1), some (.int x2), some (.int x3), some (.int (x4 + 1)), some (.int x5), none, none] [] h) : xw G m_Model_gathers F L bc bs pr px 139 [some (.ref a0), some (.int x1), some (.int x2), some (.int x3), some (.int x4), some (.int x5), none, none] [] h := by
  refine x_iinc (v := x4 + 1) d_Model_gathers_139 rfl (by rfl) (by decide) rfl ?_
  show xw G m_Model_gathers F L bc bs pr px 142 [some (.ref a0), some (.int x1), some (.int x2), some (.int x3), some (.int (x4 + 1)), some (.int x5), none, none] [] h
  exact k
theorem s_Model_gathers_142 {G : xw_G} {F L bc bs : Nat} {pr : Option Value → xw_A → Prop} {px : String → xw_A → Prop} {h : xw_A} {a0 : Nat} {x1 : Int32} {x2 : Int32} {x3 : Int32} {x4 : Int32} {x5 : Int32}  (k : xw G m_Model_gathers F L bc bs pr px 11 [some (.ref a0), some (.int x1), some (.int x2), some (.int x3), some (.int x4), some (.int (x5 + 1)), none, none] [] h) : xw G m_Model_gathers F L bc bs pr px 142 [some (.ref a0), some (.int x1), some (.int x2), some (.int x3), some (.int x4), some (.int x5), none, none] [] h := by
  refine x_iinc (v := x5 + 1) d_Model_gathers_142 rfl (by rfl) (by decide) rfl ?_
  show xw G m_Model_gathers F L bc bs pr px 145 [some (.ref a0), some (.int x1), some (.int x2), some (.int x3), some (.int x4), some (.int (x5 + 1)), none, none] [] h
  refine x_goto (tgt := 11) d_Model_gathers_145 (by decide) ?_
  exact k
theorem s_Model_gathers_148 {G : xw_G} {F L bc bs : Nat} {pr : Option Value → xw_A → Prop} {px : String → xw_A → Prop} {h : xw_A} {a0 : Nat} {x1 : Int32} {x2 : Int32} {x3 : Int32} {x4 : Int32}  (k : xw G m_Model_gathers F L bc bs pr px 154 [some (.ref a0), some (.int x1), some (.int x2), some (.int x3), some (.int x4), some (.int 0), some (.int 0), none] [] h) : xw G m_Model_gathers F L bc bs pr px 148 [some (.ref a0), some (.int x1), some (.int x2), some (.int x3), some (.int x4), none, none, none] [] h := by
  refine x_iconst (v := 0) d_Model_gathers_148 (by decide) ?_
  refine x_istore d_Model_gathers_149 (by decide) rfl ?_
  show xw G m_Model_gathers F L bc bs pr px 151 [some (.ref a0), some (.int x1), some (.int x2), some (.int x3), some (.int x4), some (.int 0), none, none] [] h
  refine x_iconst (v := 0) d_Model_gathers_151 (by decide) ?_
  refine x_istore d_Model_gathers_152 (by decide) rfl ?_
  show xw G m_Model_gathers F L bc bs pr px 154 [some (.ref a0), some (.int x1), some (.int x2), some (.int x3), some (.int x4), some (.int 0), some (.int 0), none] [] h
  exact k
theorem s_Model_gathers_154 {G : xw_G} {F L bc bs : Nat} {pr : Option Value → xw_A → Prop} {px : String → xw_A → Prop} {h : xw_A} {a0 : Nat} {x1 : Int32} {x2 : Int32} {x3 : Int32} {x4 : Int32} {x5 : Int32} {x6 : Int32} {fs_a0 : List Value} {segments_a0 : Int32} (l_a0 : fs_a0.length = 62) (e_a0 : h a0 = some (.inr (11, fs_a0))) (g_a0_segments : fs_a0[(19 : Nat)]? = some (.int segments_a0)) (kt : segments_a0 ≤ x6 → xw G m_Model_gathers F L bc bs pr px 212 [some (.ref a0), none, some (.int x2), some (.int x3), some (.int x4), some (.int x5), none, none] [] h) (kf : ¬ segments_a0 ≤ x6 → xw G m_Model_gathers F L bc bs pr px 163 [some (.ref a0), some (.int x1), some (.int x2), some (.int x3), some (.int x4), some (.int x5), some (.int x6), none] [] h) : xw G m_Model_gathers F L bc bs pr px 154 [some (.ref a0), some (.int x1), some (.int x2), some (.int x3), some (.int x4), some (.int x5), some (.int x6), none] [] h := by
  refine x_iload d_Model_gathers_154 rfl ?_
  refine x_aload_n d_Model_gathers_156 rfl rfl ?_
  refine x_get d_Model_gathers_157 f_Model_193 e_a0 g_a0_segments ?_
  refine x_icmp_ge (tgt := 212) d_Model_gathers_160 (by decide) (fun hc => ?_) (fun hc => ?_)
  · exact x_le (lv' := [some (.ref a0), none, some (.int x2), some (.int x3), some (.int x4), some (.int x5), none, none]) (xw_le_s (xw_le_n (xw_le_s (xw_le_s (xw_le_s (xw_le_s (xw_le_n (xw_le_n xw_le_e)))))))) (kt hc)
  · exact kf hc
theorem s_Model_gathers_163 {G : xw_G} {F L bc bs : Nat} {pr : Option Value → xw_A → Prop} {px : String → xw_A → Prop} {h : xw_A} {a0 : Nat} {x1 : Int32} {x2 : Int32} {x3 : Int32} {x4 : Int32} {x5 : Int32} {x6 : Int32}  (kt : x1 = ((-2)) → xw G m_Model_gathers F L bc bs pr px 189 [some (.ref a0), some (.int x1), some (.int x2), some (.int x3), some (.int x4), some (.int x5), some (.int x6), none] [] h) (kf : ¬ x1 = ((-2)) → xw G m_Model_gathers F L bc bs pr px 169 [some (.ref a0), some (.int x1), some (.int x2), some (.int x3), some (.int x4), some (.int x5), some (.int x6), none] [] h) : xw G m_Model_gathers F L bc bs pr px 163 [some (.ref a0), some (.int x1), some (.int x2), some (.int x3), some (.int x4), some (.int x5), some (.int x6), none] [] h := by
  refine x_iload_n d_Model_gathers_163 rfl rfl ?_
  refine x_bipush (v := -2) d_Model_gathers_164 (by decide) ?_
  refine x_icmp_eq (tgt := 189) d_Model_gathers_166 (by decide) (fun hc => ?_) (fun hc => ?_)
  · exact kt hc
  · exact kf hc
theorem s_Model_gathers_169 {G : xw_G} {F L bc bs : Nat} {pr : Option Value → xw_A → Prop} {px : String → xw_A → Prop} {h : xw_A} {a0 : Nat} {x1 : Int32} {x2 : Int32} {x3 : Int32} {x4 : Int32} {x5 : Int32} {x6 : Int32}  (kt : x1 < 0 → xw G m_Model_gathers F L bc bs pr px 206 [some (.ref a0), some (.int x1), some (.int x2), some (.int x3), some (.int x4), some (.int x5), some (.int x6), none] [] h) (kf : ¬ x1 < 0 → xw G m_Model_gathers F L bc bs pr px 173 [some (.ref a0), some (.int x1), some (.int x2), some (.int x3), some (.int x4), some (.int x5), some (.int x6), none] [] h) : xw G m_Model_gathers F L bc bs pr px 169 [some (.ref a0), some (.int x1), some (.int x2), some (.int x3), some (.int x4), some (.int x5), some (.int x6), none] [] h := by
  refine x_iload_n d_Model_gathers_169 rfl rfl ?_
  refine x_if_lt (tgt := 206) d_Model_gathers_170 (by decide) (fun hc => ?_) (fun hc => ?_)
  · exact kt hc
  · exact kf hc
theorem s_Model_gathers_173 {G : xw_G} {F L bc bs : Nat} {pr : Option Value → xw_A → Prop} {px : String → xw_A → Prop} {h : xw_A} {a0 : Nat} {x1 : Int32} {x2 : Int32} {x3 : Int32} {x4 : Int32} {x5 : Int32} {x6 : Int32} {fs_a0 : List Value} {level_a0 : Nat} {row_a0 : Nat} {n_row_a0 : Nat} {f_row_a0 : Nat → Int32} {n_level_a0 : Nat} {f_level_a0 : Nat → Int32} (l_a0 : fs_a0.length = 62) (e_a0 : h a0 = some (.inr (11, fs_a0))) (g_a0_level : fs_a0[(18 : Nat)]? = some (.ref level_a0)) (g_a0_row : fs_a0[(17 : Nat)]? = some (.ref row_a0)) (e_row_a0 : h row_a0 = some (.inl (0, n_row_a0, .inl f_row_a0))) (i_183 : vp_in x6 n_row_a0) (e_level_a0 : h level_a0 = some (.inl (0, n_level_a0, .inl f_level_a0))) (i_184 : vp_in (f_row_a0 x6.toNatClampNeg) n_level_a0) (kt : (f_level_a0 (f_row_a0 x6.toNatClampNeg).toNatClampNeg) = x1 → xw G m_Model_gathers F L bc bs pr px 206 [some (.ref a0), some (.int x1), some (.int x2), some (.int x3), some (.int x4), some (.int x5), some (.int x6), none] [] h) (kf : ¬ (f_level_a0 (f_row_a0 x6.toNatClampNeg).toNatClampNeg) = x1 → xw G m_Model_gathers F L bc bs pr px 189 [some (.ref a0), some (.int x1), some (.int x2), some (.int x3), some (.int x4), some (.int x5), some (.int x6), none] [] h) : xw G m_Model_gathers F L bc bs pr px 173 [some (.ref a0), some (.int x1), some (.int x2), some (.int x3), some (.int x4), some (.int x5), some (.int x6), none] [] h := by
  refine x_aload_n d_Model_gathers_173 rfl rfl ?_
  refine x_get d_Model_gathers_174 f_Model_50 e_a0 g_a0_level ?_
  refine x_aload_n d_Model_gathers_177 rfl rfl ?_
  refine x_get d_Model_gathers_178 f_Model_47 e_a0 g_a0_row ?_
  refine x_iload d_Model_gathers_181 rfl ?_
  refine x_iald d_Model_gathers_183 e_row_a0 i_183 ?_
  refine x_iald d_Model_gathers_184 e_level_a0 i_184 ?_
  refine x_iload_n d_Model_gathers_185 rfl rfl ?_
  refine x_icmp_eq (tgt := 206) d_Model_gathers_186 (by decide) (fun hc => ?_) (fun hc => ?_)
  · exact kt hc
  · exact kf hc
theorem s_Model_gathers_189 {G : xw_G} {F L bc bs : Nat} {pr : Option Value → xw_A → Prop} {px : String → xw_A → Prop} {h : xw_A} {a0 : Nat} {x1 : Int32} {x2 : Int32} {x3 : Int32} {x4 : Int32} {x5 : Int32} {x6 : Int32} {fs_a0 : List Value} {row_a0 : Nat} {n_row_a0 : Nat} {f_row_a0 : Nat → Int32} (l_a0 : fs_a0.length = 62) (e_a0 : h a0 = some (.inr (11, fs_a0))) (g_a0_row : fs_a0[(17 : Nat)]? = some (.ref row_a0)) (e_row_a0 : h row_a0 = some (.inl (0, n_row_a0, .inl f_row_a0))) (i_201 : vp_in x6 n_row_a0) (i_202 : vp_in x5 n_row_a0) (k : xw G m_Model_gathers F L bc bs pr px 206 [some (.ref a0), some (.int x1), some (.int x2), some (.int x3), some (.int x4), some (.int (x5 + 1)), some (.int x6), none] [] (xw_up h row_a0 (.inl (0, n_row_a0, .inl (upd f_row_a0 (x5).toNatClampNeg (f_row_a0 x6.toNatClampNeg)))))) : xw G m_Model_gathers F L bc bs pr px 189 [some (.ref a0), some (.int x1), some (.int x2), some (.int x3), some (.int x4), some (.int x5), some (.int x6), none] [] h := by
  refine x_aload_n d_Model_gathers_189 rfl rfl ?_
  refine x_get d_Model_gathers_190 f_Model_47 e_a0 g_a0_row ?_
  refine x_iload d_Model_gathers_193 rfl ?_
  refine x_aload_n d_Model_gathers_195 rfl rfl ?_
  refine x_get d_Model_gathers_196 f_Model_47 e_a0 g_a0_row ?_
  refine x_iload d_Model_gathers_199 rfl ?_
  refine x_iald d_Model_gathers_201 e_row_a0 i_201 ?_
  refine x_iast d_Model_gathers_202 e_row_a0 i_202 ?_
  refine x_iinc (v := x5 + 1) d_Model_gathers_203 rfl (by rfl) (by decide) rfl ?_
  show xw G m_Model_gathers F L bc bs pr px 206 [some (.ref a0), some (.int x1), some (.int x2), some (.int x3), some (.int x4), some (.int (x5 + 1)), some (.int x6), none] [] (xw_up h row_a0 (.inl (0, n_row_a0, .inl (upd f_row_a0 (x5).toNatClampNeg (f_row_a0 x6.toNatClampNeg)))))
  exact k
theorem s_Model_gathers_206 {G : xw_G} {F L bc bs : Nat} {pr : Option Value → xw_A → Prop} {px : String → xw_A → Prop} {h : xw_A} {a0 : Nat} {x1 : Int32} {x2 : Int32} {x3 : Int32} {x4 : Int32} {x5 : Int32} {x6 : Int32}  (k : xw G m_Model_gathers F L bc bs pr px 154 [some (.ref a0), some (.int x1), some (.int x2), some (.int x3), some (.int x4), some (.int x5), some (.int (x6 + 1)), none] [] h) : xw G m_Model_gathers F L bc bs pr px 206 [some (.ref a0), some (.int x1), some (.int x2), some (.int x3), some (.int x4), some (.int x5), some (.int x6), none] [] h := by
  refine x_iinc (v := x6 + 1) d_Model_gathers_206 rfl (by rfl) (by decide) rfl ?_
  show xw G m_Model_gathers F L bc bs pr px 209 [some (.ref a0), some (.int x1), some (.int x2), some (.int x3), some (.int x4), some (.int x5), some (.int (x6 + 1)), none] [] h
  refine x_goto (tgt := 154) d_Model_gathers_209 (by decide) ?_
  exact k
theorem s_Model_gathers_212 {G : xw_G} {F L bc bs : Nat} {pr : Option Value → xw_A → Prop} {px : String → xw_A → Prop} {h : xw_A} {a0 : Nat} {x2 : Int32} {x3 : Int32} {x4 : Int32} {x5 : Int32} {fs_a0 : List Value} (l_a0 : fs_a0.length = 62) (e_a0 : h a0 = some (.inr (11, fs_a0))) (kt : ¬ x4 = 0 → xw G m_Model_gathers F L bc bs pr px 224 [some (.ref a0), none, some (.int x2), some (.int x3), none, none, none, none] [] (xw_up h a0 (.inr (11, (fs_a0.set 19 (.int x5)))))) (kf : x4 = 0 → xw G m_Model_gathers F L bc bs pr px 223 [none, none, none, none, none, none, none, none] [] (xw_up h a0 (.inr (11, (fs_a0.set 19 (.int x5)))))) : xw G m_Model_gathers F L bc bs pr px 212 [some (.ref a0), none, some (.int x2), some (.int x3), some (.int x4), some (.int x5), none, none] [] h := by
  refine x_aload_n d_Model_gathers_212 rfl rfl ?_
  refine x_iload d_Model_gathers_213 rfl ?_
  refine x_put (ty := .int) d_Model_gathers_215 f_Model_193 fw_Model_19.1 fw_Model_19.2 rfl rfl (by simp [l_a0]) e_a0 ?_
  show xw G m_Model_gathers F L bc bs pr px 218 [some (.ref a0), none, some (.int x2), some (.int x3), some (.int x4), some (.int x5), none, none] [] (xw_up h a0 (.inr (11, (fs_a0.set 19 (.int x5)))))
  refine x_iload d_Model_gathers_218 rfl ?_
  refine x_if_ne (tgt := 224) d_Model_gathers_220 (by decide) (fun hc => ?_) (fun hc => ?_)
  · exact x_le (lv' := [some (.ref a0), none, some (.int x2), some (.int x3), none, none, none, none]) (xw_le_s (xw_le_n (xw_le_s (xw_le_s (xw_le_n (xw_le_n (xw_le_n (xw_le_n xw_le_e)))))))) (kt hc)
  · exact x_le (lv' := [none, none, none, none, none, none, none, none]) (xw_le_n (xw_le_n (xw_le_n (xw_le_n (xw_le_n (xw_le_n (xw_le_n (xw_le_n xw_le_e)))))))) (kf hc)
theorem s_Model_gathers_223 {G : xw_G} {F L bc bs : Nat} {pr : Option Value → xw_A → Prop} {px : String → xw_A → Prop} {h : xw_A}   (kr : pr none h) : xw G m_Model_gathers F L bc bs pr px 223 [none, none, none, none, none, none, none, none] [] h := by
  exact x_vret d_Model_gathers_223 rfl kr
theorem s_Model_gathers_224 {G : xw_G} {F L bc bs : Nat} {pr : Option Value → xw_A → Prop} {px : String → xw_A → Prop} {h : xw_A} {a0 : Nat} {x2 : Int32} {x3 : Int32} {fs_a0 : List Value} {level_a0 : Nat} {n_level_a0 : Nat} {f_level_a0 : Nat → Int32} {row_a0 : Nat} {segments_a0 : Int32} {n_row_a0 : Nat} {f_row_a0 : Nat → Int32} {made_a0 : Int32} (l_a0 : fs_a0.length = 62) (e_a0 : h a0 = some (.inr (11, fs_a0))) (g_a0_level : fs_a0[(18 : Nat)]? = some (.ref level_a0)) (e_level_a0 : h level_a0 = some (.inl (0, n_level_a0, .inl f_level_a0))) (i_230 : vp_in x3 n_level_a0) (g_a0_row : fs_a0[(17 : Nat)]? = some (.ref row_a0)) (g_a0_segments : fs_a0[(19 : Nat)]? = some (.int segments_a0)) (e_row_a0 : h row_a0 = some (.inl (0, n_row_a0, .inl f_row_a0))) (i_240 : vp_in segments_a0 n_row_a0) (n_row_a0_level_a0 : row_a0 ≠ level_a0) (g_a0_made : fs_a0[(16 : Nat)]? = some (.int made_a0)) (k : xw G m_Model_gathers F L bc bs pr px 261 [none, none, none, none, none, none, none, none] [] (xw_up (xw_up (xw_up (xw_up h level_a0 (.inl (0, n_level_a0, .inl (upd f_level_a0 (x3).toNatClampNeg x2)))) row_a0 (.inl (0, n_row_a0, .inl (upd f_row_a0 (segments_a0).toNatClampNeg x3)))) a0 (.inr (11, (fs_a0.set 19 (.int (segments_a0 + 1)))))) a0 (.inr (11, ((fs_a0.set 19 (.int (segments_a0 + 1))).set 16 (.int (made_a0 + 1))))))) : xw G m_Model_gathers F L bc bs pr px 224 [some (.ref a0), none, some (.int x2), some (.int x3), none, none, none, none] [] h := by
  refine x_aload_n d_Model_gathers_224 rfl rfl ?_
  refine x_get d_Model_gathers_225 f_Model_50 e_a0 g_a0_level ?_
  refine x_iload_n d_Model_gathers_228 rfl rfl ?_
  refine x_iload_n d_Model_gathers_229 rfl rfl ?_
  refine x_iast d_Model_gathers_230 e_level_a0 i_230 ?_
  refine x_aload_n d_Model_gathers_231 rfl rfl ?_
  refine x_get d_Model_gathers_232 f_Model_47 ((xw_up_n _ _ (xw_ne e_a0 e_level_a0 (by simp))).trans e_a0) g_a0_row ?_
  refine x_aload_n d_Model_gathers_235 rfl rfl ?_
  refine x_get d_Model_gathers_236 f_Model_193 ((xw_up_n _ _ (xw_ne e_a0 e_level_a0 (by simp))).trans e_a0) g_a0_segments ?_
  refine x_iload_n d_Model_gathers_239 rfl rfl ?_
  refine x_iast d_Model_gathers_240 ((xw_up_n _ _ n_row_a0_level_a0).trans e_row_a0) i_240 ?_
  refine x_aload_n d_Model_gathers_241 rfl rfl ?_
  refine x_dup d_Model_gathers_242 rfl ?_
  refine x_get d_Model_gathers_243 f_Model_193 ((xw_up_n _ _ (xw_ne e_a0 e_row_a0 (by simp))).trans ((xw_up_n _ _ (xw_ne e_a0 e_level_a0 (by simp))).trans e_a0)) g_a0_segments ?_
  refine x_iconst (v := 1) d_Model_gathers_246 (by decide) ?_
  refine x_iadd d_Model_gathers_247 ?_
  refine x_put (ty := .int) d_Model_gathers_248 f_Model_193 fw_Model_19.1 fw_Model_19.2 rfl rfl (by simp [l_a0]) ((xw_up_n _ _ (xw_ne e_a0 e_row_a0 (by simp))).trans ((xw_up_n _ _ (xw_ne e_a0 e_level_a0 (by simp))).trans e_a0)) ?_
  show xw G m_Model_gathers F L bc bs pr px 251 [some (.ref a0), none, some (.int x2), some (.int x3), none, none, none, none] [] (xw_up (xw_up (xw_up h level_a0 (.inl (0, n_level_a0, .inl (upd f_level_a0 (x3).toNatClampNeg x2)))) row_a0 (.inl (0, n_row_a0, .inl (upd f_row_a0 (segments_a0).toNatClampNeg x3)))) a0 (.inr (11, (fs_a0.set 19 (.int (segments_a0 + 1))))))
  refine x_aload_n d_Model_gathers_251 rfl rfl ?_
  refine x_dup d_Model_gathers_252 rfl ?_
  refine x_get d_Model_gathers_253 f_Model_187 (xw_up_s _ _ _) (xw_gn (by decide) g_a0_made) ?_
  refine x_iconst (v := 1) d_Model_gathers_256 (by decide) ?_
  refine x_iadd d_Model_gathers_257 ?_
  refine x_put (ty := .int) d_Model_gathers_258 f_Model_187 fw_Model_16.1 fw_Model_16.2 rfl rfl (by simp [l_a0]) (xw_up_s _ _ _) ?_
  show xw G m_Model_gathers F L bc bs pr px 261 [some (.ref a0), none, some (.int x2), some (.int x3), none, none, none, none] [] (xw_up (xw_up (xw_up (xw_up h level_a0 (.inl (0, n_level_a0, .inl (upd f_level_a0 (x3).toNatClampNeg x2)))) row_a0 (.inl (0, n_row_a0, .inl (upd f_row_a0 (segments_a0).toNatClampNeg x3)))) a0 (.inr (11, (fs_a0.set 19 (.int (segments_a0 + 1)))))) a0 (.inr (11, ((fs_a0.set 19 (.int (segments_a0 + 1))).set 16 (.int (made_a0 + 1))))))
  exact x_le (lv' := [none, none, none, none, none, none, none, none]) (xw_le_n (xw_le_n (xw_le_n (xw_le_n (xw_le_n (xw_le_n (xw_le_n (xw_le_n xw_le_e)))))))) (k)
theorem s_Model_gathers_261 {G : xw_G} {F L bc bs : Nat} {pr : Option Value → xw_A → Prop} {px : String → xw_A → Prop} {h : xw_A}   (kr : pr none h) : xw G m_Model_gathers F L bc bs pr px 261 [none, none, none, none, none, none, none, none] [] h := by
  exact x_vret d_Model_gathers_261 rfl kr
theorem s_Model_isLive_0 {G : xw_G} {F L bc bs : Nat} {pr : Option Value → xw_A → Prop} {px : String → xw_A → Prop} {h : xw_A} {a0 : Nat} {x1 : Int32}  (k : xw G m_Model_isLive F L bc bs pr px 2 [some (.ref a0), some (.int x1), some (.int 0)] [] h) : xw G m_Model_isLive F L bc bs pr px 0 [some (.ref a0), some (.int x1), none] [] h := by
  refine x_iconst (v := 0) d_Model_isLive_0 (by decide) ?_
  refine x_istore_n d_Model_isLive_1 rfl (by decide) rfl ?_
  show xw G m_Model_isLive F L bc bs pr px 2 [some (.ref a0), some (.int x1), some (.int 0)] [] h
  exact k
theorem s_Model_isLive_2 {G : xw_G} {F L bc bs : Nat} {pr : Option Value → xw_A → Prop} {px : String → xw_A → Prop} {h : xw_A} {a0 : Nat} {x1 : Int32} {x2 : Int32}  (kt : 24 ≤ x2 → xw G m_Model_isLive F L bc bs pr px 26 [none, none, none] [] h) (kf : ¬ 24 ≤ x2 → xw G m_Model_isLive F L bc bs pr px 8 [some (.ref a0), some (.int x1), some (.int x2)] [] h) : xw G m_Model_isLive F L bc bs pr px 2 [some (.ref a0), some (.int x1), some (.int x2)] [] h := by
  refine x_iload_n d_Model_isLive_2 rfl rfl ?_
  refine x_bipush (v := 24) d_Model_isLive_3 (by decide) ?_
  refine x_icmp_ge (tgt := 26) d_Model_isLive_5 (by decide) (fun hc => ?_) (fun hc => ?_)
  · exact x_le (lv' := [none, none, none]) (xw_le_n (xw_le_n (xw_le_n xw_le_e))) (kt hc)
  · exact kf hc
theorem s_Model_isLive_8 {G : xw_G} {F L bc bs : Nat} {pr : Option Value → xw_A → Prop} {px : String → xw_A → Prop} {h : xw_A} {a0 : Nat} {x1 : Int32} {x2 : Int32} {fs_a0 : List Value} {live_a0 : Nat} {n_live_a0 : Nat} {f_live_a0 : Nat → Int32} (l_a0 : fs_a0.length = 62) (e_a0 : h a0 = some (.inr (11, fs_a0))) (g_a0_live : fs_a0[(14 : Nat)]? = some (.ref live_a0)) (e_live_a0 : h live_a0 = some (.inl (0, n_live_a0, .inl f_live_a0))) (i_13 : vp_in x2 n_live_a0) (kt : ¬ (f_live_a0 x2.toNatClampNeg) = x1 → xw G m_Model_isLive F L bc bs pr px 20 [some (.ref a0), some (.int x1), some (.int x2)] [] h) (kf : (f_live_a0 x2.toNatClampNeg) = x1 → xw G m_Model_isLive F L bc bs pr px 18 [none, none, none] [] h) : xw G m_Model_isLive F L bc bs pr px 8 [some (.ref a0), some (.int x1), some (.int x2)] [] h := by
  refine x_aload_n d_Model_isLive_8 rfl rfl ?_
  refine x_get d_Model_isLive_9 f_Model_44 e_a0 g_a0_live ?_
  refine x_iload_n d_Model_isLive_12 rfl rfl ?_
  refine x_iald d_Model_isLive_13 e_live_a0 i_13 ?_
  refine x_iload_n d_Model_isLive_14 rfl rfl ?_
  refine x_icmp_ne (tgt := 20) d_Model_isLive_15 (by decide) (fun hc => ?_) (fun hc => ?_)
  · exact kt hc
  · exact x_le (lv' := [none, none, none]) (xw_le_n (xw_le_n (xw_le_n xw_le_e))) (kf hc)
theorem s_Model_isLive_18 {G : xw_G} {F L bc bs : Nat} {pr : Option Value → xw_A → Prop} {px : String → xw_A → Prop} {h : xw_A}   (kr : pr (some (.int 1)) h) : xw G m_Model_isLive F L bc bs pr px 18 [none, none, none] [] h := by
  refine x_iconst (v := 1) d_Model_isLive_18 (by decide) ?_
  exact x_zret d_Model_isLive_19 rfl rfl kr
theorem s_Model_isLive_20 {G : xw_G} {F L bc bs : Nat} {pr : Option Value → xw_A → Prop} {px : String → xw_A → Prop} {h : xw_A} {a0 : Nat} {x1 : Int32} {x2 : Int32}  (k : xw G m_Model_isLive F L bc bs pr px 2 [some (.ref a0), some (.int x1), some (.int (x2 + 1))] [] h) : xw G m_Model_isLive F L bc bs pr px 20 [some (.ref a0), some (.int x1), some (.int x2)] [] h := by
  refine x_iinc (v := x2 + 1) d_Model_isLive_20 rfl (by rfl) (by decide) rfl ?_
  show xw G m_Model_isLive F L bc bs pr px 23 [some (.ref a0), some (.int x1), some (.int (x2 + 1))] [] h
  refine x_goto (tgt := 2) d_Model_isLive_23 (by decide) ?_
  exact k
theorem s_Model_isLive_26 {G : xw_G} {F L bc bs : Nat} {pr : Option Value → xw_A → Prop} {px : String → xw_A → Prop} {h : xw_A}   (kr : pr (some (.int 0)) h) : xw G m_Model_isLive F L bc bs pr px 26 [none, none, none] [] h := by
  refine x_iconst (v := 0) d_Model_isLive_26 (by decide) ?_
  exact x_zret d_Model_isLive_27 rfl rfl kr
theorem s_Model_replace_0 {G : xw_G} {F L bc bs : Nat} {pr : Option Value → xw_A → Prop} {px : String → xw_A → Prop} {h : xw_A} {a0 : Nat} {x1 : Int32} {fs_a0 : List Value} (l_a0 : fs_a0.length = 62) (e_a0 : h a0 = some (.inr (11, fs_a0))) (k : xw G m_Model_replace F L bc bs pr px 8 [some (.ref a0), some (.int x1)] [.int x1, .ref a0, .ref a0] (xw_up h a0 (.inr (11, (fs_a0.set 0 (.int 0)))))) : xw G m_Model_replace F L bc bs pr px 0 [some (.ref a0), some (.int x1)] [] h := by
  refine x_aload_n d_Model_replace_0 rfl rfl ?_
  refine x_iconst (v := 0) d_Model_replace_1 (by decide) ?_
  refine x_put (ty := .int) d_Model_replace_2 f_Model_130 fw_Model_0.1 fw_Model_0.2 rfl rfl (by simp [l_a0]) e_a0 ?_
  show xw G m_Model_replace F L bc bs pr px 5 [some (.ref a0), some (.int x1)] [] (xw_up h a0 (.inr (11, (fs_a0.set 0 (.int 0)))))
  refine x_aload_n d_Model_replace_5 rfl rfl ?_
  refine x_aload_n d_Model_replace_6 rfl rfl ?_
  refine x_iload_n d_Model_replace_7 rfl rfl ?_
  exact k
theorem s_Model_replace_11 {G : xw_G} {F L bc bs : Nat} {pr : Option Value → xw_A → Prop} {px : String → xw_A → Prop} {h : xw_A} {a0 : Nat} {x1 : Int32} {y0 : Int32}  (kt : ¬ y0 = 0 → xw G m_Model_replace F L bc bs pr px 18 [some (.ref a0), some (.int x1)] [.ref a0] h) (kf : y0 = 0 → xw G m_Model_replace F L bc bs pr px 14 [some (.ref a0), some (.int x1)] [.ref a0] h) : xw G m_Model_replace F L bc bs pr px 11 [some (.ref a0), some (.int x1)] [.int y0, .ref a0] h := by
  refine x_if_ne (tgt := 18) d_Model_replace_11 (by decide) (fun hc => ?_) (fun hc => ?_)
  · exact kt hc
  · exact kf hc
theorem s_Model_replace_14 {G : xw_G} {F L bc bs : Nat} {pr : Option Value → xw_A → Prop} {px : String → xw_A → Prop} {h : xw_A} {a0 : Nat} {x1 : Int32}  (k : xw G m_Model_replace F L bc bs pr px 19 [some (.ref a0), some (.int x1)] [.int 1, .ref a0] h) : xw G m_Model_replace F L bc bs pr px 14 [some (.ref a0), some (.int x1)] [.ref a0] h := by
  refine x_iconst (v := 1) d_Model_replace_14 (by decide) ?_
  refine x_goto (tgt := 19) d_Model_replace_15 (by decide) ?_
  exact k
theorem s_Model_replace_18 {G : xw_G} {F L bc bs : Nat} {pr : Option Value → xw_A → Prop} {px : String → xw_A → Prop} {h : xw_A} {a0 : Nat} {x1 : Int32}  (k : xw G m_Model_replace F L bc bs pr px 19 [some (.ref a0), some (.int x1)] [.int 0, .ref a0] h) : xw G m_Model_replace F L bc bs pr px 18 [some (.ref a0), some (.int x1)] [.ref a0] h := by
  refine x_iconst (v := 0) d_Model_replace_18 (by decide) ?_
  exact k
theorem s_Model_replace_19 {G : xw_G} {F L bc bs : Nat} {pr : Option Value → xw_A → Prop} {px : String → xw_A → Prop} {h : xw_A} {a0 : Nat} {x1 : Int32} {y0 : Int32}  (k : xw G m_Model_replace F L bc bs pr px 20 [some (.ref a0), some (.int x1)] [.int 1, .int y0, .ref a0] h) : xw G m_Model_replace F L bc bs pr px 19 [some (.ref a0), some (.int x1)] [.int y0, .ref a0] h := by
  refine x_iconst (v := 1) d_Model_replace_19 (by decide) ?_
  exact k
theorem s_Model_replace_23 {G : xw_G} {F L bc bs : Nat} {pr : Option Value → xw_A → Prop} {px : String → xw_A → Prop} {h : xw_A} {a0 : Nat} {x1 : Int32} {y0 : Int32}  (kt : y0 = 0 → xw G m_Model_replace F L bc bs pr px 30 [some (.ref a0), some (.int x1)] [] h) (kf : ¬ y0 = 0 → xw G m_Model_replace F L bc bs pr px 26 [none, none] [] h) : xw G m_Model_replace F L bc bs pr px 23 [some (.ref a0), some (.int x1)] [.int y0] h := by
  refine x_if_eq (tgt := 30) d_Model_replace_23 (by decide) (fun hc => ?_) (fun hc => ?_)
  · exact kt hc
  · exact x_le (lv' := [none, none]) (xw_le_n (xw_le_n xw_le_e)) (kf hc)
theorem s_Model_replace_26 {G : xw_G} {F L bc bs : Nat} {pr : Option Value → xw_A → Prop} {px : String → xw_A → Prop} {h : xw_A}   (k : xw G m_Model_replace F L bc bs pr px 37 [none, none] [.int 0] h) : xw G m_Model_replace F L bc bs pr px 26 [none, none] [] h := by
  refine x_iconst (v := 0) d_Model_replace_26 (by decide) ?_
  refine x_goto (tgt := 37) d_Model_replace_27 (by decide) ?_
  exact k
theorem s_Model_replace_30 {G : xw_G} {F L bc bs : Nat} {pr : Option Value → xw_A → Prop} {px : String → xw_A → Prop} {h : xw_A} {a0 : Nat} {x1 : Int32}  (k : xw G m_Model_replace F L bc bs pr px 34 [some (.ref a0), some (.int x1)] [.int (x1 - 1), .ref a0] h) : xw G m_Model_replace F L bc bs pr px 30 [some (.ref a0), some (.int x1)] [] h := by
  refine x_aload_n d_Model_replace_30 rfl rfl ?_
  refine x_iload_n d_Model_replace_31 rfl rfl ?_
  refine x_iconst (v := 1) d_Model_replace_32 (by decide) ?_
  refine x_isub d_Model_replace_33 ?_
  exact k
theorem s_Model_replace_37 {G : xw_G} {F L bc bs : Nat} {pr : Option Value → xw_A → Prop} {px : String → xw_A → Prop} {h : xw_A} {y0 : Int32}  (kr : pr (some (.int y0)) h) : xw G m_Model_replace F L bc bs pr px 37 [none, none] [.int y0] h := by
  exact x_iret d_Model_replace_37 rfl kr
theorem s_Model_has_0 {G : xw_G} {F L bc bs : Nat} {pr : Option Value → xw_A → Prop} {px : String → xw_A → Prop} {h : xw_A} {a0 : Nat} {x1 : Int32}  (k : xw G m_Model_has F L bc bs pr px 4 [some (.ref a0), some (.int x1)] [.int 24, .int 1, .int x1] h) : xw G m_Model_has F L bc bs pr px 0 [some (.ref a0), some (.int x1)] [] h := by
  refine x_iload_n d_Model_has_0 rfl rfl ?_
  refine x_iconst (v := 1) d_Model_has_1 (by decide) ?_
  refine x_bipush (v := 24) d_Model_has_2 (by decide) ?_
  exact k
theorem s_Model_has_7 {G : xw_G} {F L bc bs : Nat} {pr : Option Value → xw_A → Prop} {px : String → xw_A → Prop} {h : xw_A} {a0 : Nat} {x1 : Int32} {y0 : Int32}  (kt : y0 = 0 → xw G m_Model_has F L bc bs pr px 25 [none, none] [] h) (kf : ¬ y0 = 0 → xw G m_Model_has F L bc bs pr px 10 [some (.ref a0), some (.int x1)] [] h) : xw G m_Model_has F L bc bs pr px 7 [some (.ref a0), some (.int x1)] [.int y0] h := by
  refine x_if_eq (tgt := 25) d_Model_has_7 (by decide) (fun hc => ?_) (fun hc => ?_)
  · exact x_le (lv' := [none, none]) (xw_le_n (xw_le_n xw_le_e)) (kt hc)
  · exact kf hc
theorem s_Model_has_10 {G : xw_G} {F L bc bs : Nat} {pr : Option Value → xw_A → Prop} {px : String → xw_A → Prop} {h : xw_A} {a0 : Nat} {x1 : Int32} {fs_a0 : List Value} {live_a0 : Nat} {n_live_a0 : Nat} {f_live_a0 : Nat → Int32} (l_a0 : fs_a0.length = 62) (e_a0 : h a0 = some (.inr (11, fs_a0))) (g_a0_live : fs_a0[(14 : Nat)]? = some (.ref live_a0)) (e_live_a0 : h live_a0 = some (.inl (0, n_live_a0, .inl f_live_a0))) (i_17 : vp_in (x1 - 1) n_live_a0) (kt : (f_live_a0 (x1 - 1).toNatClampNeg) < 0 → xw G m_Model_has F L bc bs pr px 25 [none, none] [] h) (kf : ¬ (f_live_a0 (x1 - 1).toNatClampNeg) < 0 → xw G m_Model_has F L bc bs pr px 21 [none, none] [] h) : xw G m_Model_has F L bc bs pr px 10 [some (.ref a0), some (.int x1)] [] h := by
  refine x_aload_n d_Model_has_10 rfl rfl ?_
  refine x_get d_Model_has_11 f_Model_44 e_a0 g_a0_live ?_
  refine x_iload_n d_Model_has_14 rfl rfl ?_
  refine x_iconst (v := 1) d_Model_has_15 (by decide) ?_
  refine x_isub d_Model_has_16 ?_
  refine x_iald d_Model_has_17 e_live_a0 i_17 ?_
  refine x_if_lt (tgt := 25) d_Model_has_18 (by decide) (fun hc => ?_) (fun hc => ?_)
  · exact x_le (lv' := [none, none]) (xw_le_n (xw_le_n xw_le_e)) (kt hc)
  · exact x_le (lv' := [none, none]) (xw_le_n (xw_le_n xw_le_e)) (kf hc)
theorem s_Model_has_21 {G : xw_G} {F L bc bs : Nat} {pr : Option Value → xw_A → Prop} {px : String → xw_A → Prop} {h : xw_A}   (k : xw G m_Model_has F L bc bs pr px 26 [none, none] [.int 1] h) : xw G m_Model_has F L bc bs pr px 21 [none, none] [] h := by
  refine x_iconst (v := 1) d_Model_has_21 (by decide) ?_
  refine x_goto (tgt := 26) d_Model_has_22 (by decide) ?_
  exact k
theorem s_Model_has_25 {G : xw_G} {F L bc bs : Nat} {pr : Option Value → xw_A → Prop} {px : String → xw_A → Prop} {h : xw_A}   (k : xw G m_Model_has F L bc bs pr px 26 [none, none] [.int 0] h) : xw G m_Model_has F L bc bs pr px 25 [none, none] [] h := by
  refine x_iconst (v := 0) d_Model_has_25 (by decide) ?_
  exact k
theorem s_Model_has_26 {G : xw_G} {F L bc bs : Nat} {pr : Option Value → xw_A → Prop} {px : String → xw_A → Prop} {h : xw_A} {y0 : Int32} (w_26 : narrow .boolean (.int y0) = .int y0) (kr : pr (some (.int y0)) h) : xw G m_Model_has F L bc bs pr px 26 [none, none] [.int y0] h := by
  exact x_zret d_Model_has_26 rfl w_26 kr
theorem s_Model_delete_0 {G : xw_G} {F L bc bs : Nat} {pr : Option Value → xw_A → Prop} {px : String → xw_A → Prop} {h : xw_A} {a0 : Nat} {x1 : Int32} {fs_a0 : List Value} (l_a0 : fs_a0.length = 62) (e_a0 : h a0 = some (.inr (11, fs_a0))) (k : xw G m_Model_delete F L bc bs pr px 8 [some (.ref a0), some (.int x1), none] [.int x1, .ref a0, .ref a0] (xw_up h a0 (.inr (11, (fs_a0.set 0 (.int 0)))))) : xw G m_Model_delete F L bc bs pr px 0 [some (.ref a0), some (.int x1), none] [] h := by
  refine x_aload_n d_Model_delete_0 rfl rfl ?_
  refine x_iconst (v := 0) d_Model_delete_1 (by decide) ?_
  refine x_put (ty := .int) d_Model_delete_2 f_Model_130 fw_Model_0.1 fw_Model_0.2 rfl rfl (by simp [l_a0]) e_a0 ?_
  show xw G m_Model_delete F L bc bs pr px 5 [some (.ref a0), some (.int x1), none] [] (xw_up h a0 (.inr (11, (fs_a0.set 0 (.int 0)))))
  refine x_aload_n d_Model_delete_5 rfl rfl ?_
  refine x_aload_n d_Model_delete_6 rfl rfl ?_
  refine x_iload_n d_Model_delete_7 rfl rfl ?_
  exact k
theorem s_Model_delete_11 {G : xw_G} {F L bc bs : Nat} {pr : Option Value → xw_A → Prop} {px : String → xw_A → Prop} {h : xw_A} {a0 : Nat} {x1 : Int32} {y0 : Int32}  (kt : ¬ y0 = 0 → xw G m_Model_delete F L bc bs pr px 18 [some (.ref a0), some (.int x1), none] [.ref a0] h) (kf : y0 = 0 → xw G m_Model_delete F L bc bs pr px 14 [some (.ref a0), some (.int x1), none] [.ref a0] h) : xw G m_Model_delete F L bc bs pr px 11 [some (.ref a0), some (.int x1), none] [.int y0, .ref a0] h := by
  refine x_if_ne (tgt := 18) d_Model_delete_11 (by decide) (fun hc => ?_) (fun hc => ?_)
  · exact kt hc
  · exact kf hc
theorem s_Model_delete_14 {G : xw_G} {F L bc bs : Nat} {pr : Option Value → xw_A → Prop} {px : String → xw_A → Prop} {h : xw_A} {a0 : Nat} {x1 : Int32}  (k : xw G m_Model_delete F L bc bs pr px 19 [some (.ref a0), some (.int x1), none] [.int 1, .ref a0] h) : xw G m_Model_delete F L bc bs pr px 14 [some (.ref a0), some (.int x1), none] [.ref a0] h := by
  refine x_iconst (v := 1) d_Model_delete_14 (by decide) ?_
  refine x_goto (tgt := 19) d_Model_delete_15 (by decide) ?_
  exact k
theorem s_Model_delete_18 {G : xw_G} {F L bc bs : Nat} {pr : Option Value → xw_A → Prop} {px : String → xw_A → Prop} {h : xw_A} {a0 : Nat} {x1 : Int32}  (k : xw G m_Model_delete F L bc bs pr px 19 [some (.ref a0), some (.int x1), none] [.int 0, .ref a0] h) : xw G m_Model_delete F L bc bs pr px 18 [some (.ref a0), some (.int x1), none] [.ref a0] h := by
  refine x_iconst (v := 0) d_Model_delete_18 (by decide) ?_
  exact k
theorem s_Model_delete_19 {G : xw_G} {F L bc bs : Nat} {pr : Option Value → xw_A → Prop} {px : String → xw_A → Prop} {h : xw_A} {a0 : Nat} {x1 : Int32} {y0 : Int32}  (k : xw G m_Model_delete F L bc bs pr px 20 [some (.ref a0), some (.int x1), none] [.int 1, .int y0, .ref a0] h) : xw G m_Model_delete F L bc bs pr px 19 [some (.ref a0), some (.int x1), none] [.int y0, .ref a0] h := by
  refine x_iconst (v := 1) d_Model_delete_19 (by decide) ?_
  exact k
theorem s_Model_delete_23 {G : xw_G} {F L bc bs : Nat} {pr : Option Value → xw_A → Prop} {px : String → xw_A → Prop} {h : xw_A} {a0 : Nat} {x1 : Int32} {y0 : Int32}  (kt : y0 = 0 → xw G m_Model_delete F L bc bs pr px 28 [some (.ref a0), some (.int x1), none] [] h) (kf : ¬ y0 = 0 → xw G m_Model_delete F L bc bs pr px 26 [none, none, none] [] h) : xw G m_Model_delete F L bc bs pr px 23 [some (.ref a0), some (.int x1), none] [.int y0] h := by
  refine x_if_eq (tgt := 28) d_Model_delete_23 (by decide) (fun hc => ?_) (fun hc => ?_)
  · exact kt hc
  · exact x_le (lv' := [none, none, none]) (xw_le_n (xw_le_n (xw_le_n xw_le_e))) (kf hc)
theorem s_Model_delete_26 {G : xw_G} {F L bc bs : Nat} {pr : Option Value → xw_A → Prop} {px : String → xw_A → Prop} {h : xw_A}   (kr : pr (some (.int 0)) h) : xw G m_Model_delete F L bc bs pr px 26 [none, none, none] [] h := by
  refine x_iconst (v := 0) d_Model_delete_26 (by decide) ?_
  exact x_iret d_Model_delete_27 rfl kr
theorem s_Model_delete_28 {G : xw_G} {F L bc bs : Nat} {pr : Option Value → xw_A → Prop} {px : String → xw_A → Prop} {h : xw_A} {a0 : Nat} {x1 : Int32}  (k : xw G m_Model_delete F L bc bs pr px 32 [some (.ref a0), some (.int x1), none] [.int (x1 - 1), .ref a0] h) : xw G m_Model_delete F L bc bs pr px 28 [some (.ref a0), some (.int x1), none] [] h := by
  refine x_aload_n d_Model_delete_28 rfl rfl ?_
  refine x_iload_n d_Model_delete_29 rfl rfl ?_
  refine x_iconst (v := 1) d_Model_delete_30 (by decide) ?_
  refine x_isub d_Model_delete_31 ?_
  exact k
theorem s_Model_delete_35 {G : xw_G} {F L bc bs : Nat} {pr : Option Value → xw_A → Prop} {px : String → xw_A → Prop} {h : xw_A} {a0 : Nat} {x1 : Int32} {y0 : Int32} {fs_a0 : List Value} {live_a0 : Nat} {n_live_a0 : Nat} {f_live_a0 : Nat → Int32} (l_a0 : fs_a0.length = 62) (e_a0 : h a0 = some (.inr (11, fs_a0))) (g_a0_live : fs_a0[(14 : Nat)]? = some (.ref live_a0)) (e_live_a0 : h live_a0 = some (.inl (0, n_live_a0, .inl f_live_a0))) (i_44 : vp_in (x1 - 1) n_live_a0) (kr : pr (some (.int y0)) (xw_up h live_a0 (.inl (0, n_live_a0, .inl (upd f_live_a0 ((x1 - 1)).toNatClampNeg ((-1))))))) : xw G m_Model_delete F L bc bs pr px 35 [some (.ref a0), some (.int x1), none] [.int y0] h := by
  refine x_istore_n d_Model_delete_35 rfl (by decide) rfl ?_
  show xw G m_Model_delete F L bc bs pr px 36 [some (.ref a0), some (.int x1), some (.int y0)] [] h
  refine x_aload_n d_Model_delete_36 rfl rfl ?_
  refine x_get d_Model_delete_37 f_Model_44 e_a0 g_a0_live ?_
  refine x_iload_n d_Model_delete_40 rfl rfl ?_
  refine x_iconst (v := 1) d_Model_delete_41 (by decide) ?_
  refine x_isub d_Model_delete_42 ?_
  refine x_iconst (v := -1) d_Model_delete_43 (by decide) ?_
  refine x_iast d_Model_delete_44 e_live_a0 i_44 ?_
  refine x_iload_n d_Model_delete_45 rfl rfl ?_
  exact x_iret d_Model_delete_46 rfl kr
theorem s_Model_tokensOf_0 {G : xw_G} {F L bc bs : Nat} {pr : Option Value → xw_A → Prop} {px : String → xw_A → Prop} {h : xw_A} {a0 : Nat} {x1 : Int32}  (k : xw G m_Model_tokensOf F L bc bs pr px 3 [some (.ref a0), some (.int x1), none] [.int 0, .int x1, .ref a0] h) : xw G m_Model_tokensOf F L bc bs pr px 0 [some (.ref a0), some (.int x1), none] [] h := by
  refine x_aload_n d_Model_tokensOf_0 rfl rfl ?_
  refine x_iload_n d_Model_tokensOf_1 rfl rfl ?_
  refine x_iconst (v := 0) d_Model_tokensOf_2 (by decide) ?_
  exact k
theorem s_Model_tokensOf_6 {G : xw_G} {F L bc bs : Nat} {pr : Option Value → xw_A → Prop} {px : String → xw_A → Prop} {h : xw_A} {a0 : Nat} {x1 : Int32} {fs_a0 : List Value} {column_a0 : Int32} (l_a0 : fs_a0.length = 62) (e_a0 : h a0 = some (.inr (11, fs_a0))) (g_a0_column : fs_a0[(55 : Nat)]? = some (.int column_a0)) (k : xw G m_Model_tokensOf F L bc bs pr px 14 [some (.ref a0), some (.int x1), some (.int column_a0)] [.int 1, .int x1, .ref a0] h) : xw G m_Model_tokensOf F L bc bs pr px 6 [some (.ref a0), some (.int x1), none] [] h := by
  refine x_aload_n d_Model_tokensOf_6 rfl rfl ?_
  refine x_get d_Model_tokensOf_7 f_Model_150 e_a0 g_a0_column ?_
  refine x_istore_n d_Model_tokensOf_10 rfl (by decide) rfl ?_
  show xw G m_Model_tokensOf F L bc bs pr px 11 [some (.ref a0), some (.int x1), some (.int column_a0)] [] h
  refine x_aload_n d_Model_tokensOf_11 rfl rfl ?_
  refine x_iload_n d_Model_tokensOf_12 rfl rfl ?_
  refine x_iconst (v := 1) d_Model_tokensOf_13 (by decide) ?_
  exact k
theorem s_Model_tokensOf_17 {G : xw_G} {F L bc bs : Nat} {pr : Option Value → xw_A → Prop} {px : String → xw_A → Prop} {h : xw_A} {a0 : Nat} {x2 : Int32} {fs_a0 : List Value} {column_a0 : Int32} (l_a0 : fs_a0.length = 62) (e_a0 : h a0 = some (.inr (11, fs_a0))) (g_a0_column : fs_a0[(55 : Nat)]? = some (.int column_a0)) (kr : pr (some (.int (x2 + column_a0))) h) : xw G m_Model_tokensOf F L bc bs pr px 17 [some (.ref a0), none, some (.int x2)] [] h := by
  refine x_iload_n d_Model_tokensOf_17 rfl rfl ?_
  refine x_aload_n d_Model_tokensOf_18 rfl rfl ?_
  refine x_get d_Model_tokensOf_19 f_Model_150 e_a0 g_a0_column ?_
  refine x_iadd d_Model_tokensOf_22 ?_
  exact x_iret d_Model_tokensOf_23 rfl kr
theorem s_Model_flush_0 {G : xw_G} {F L bc bs : Nat} {pr : Option Value → xw_A → Prop} {px : String → xw_A → Prop} {h : xw_A} {a0 : Nat} {fs_a0 : List Value} (l_a0 : fs_a0.length = 62) (e_a0 : h a0 = some (.inr (11, fs_a0))) (k : xw G m_Model_flush F L bc bs pr px 6 [some (.ref a0)] [.ref a0] (xw_up h a0 (.inr (11, (fs_a0.set 0 (.int 0)))))) : xw G m_Model_flush F L bc bs pr px 0 [some (.ref a0)] [] h := by
  refine x_aload_n d_Model_flush_0 rfl rfl ?_
  refine x_iconst (v := 0) d_Model_flush_1 (by decide) ?_
  refine x_put (ty := .int) d_Model_flush_2 f_Model_130 fw_Model_0.1 fw_Model_0.2 rfl rfl (by simp [l_a0]) e_a0 ?_
  show xw G m_Model_flush F L bc bs pr px 5 [some (.ref a0)] [] (xw_up h a0 (.inr (11, (fs_a0.set 0 (.int 0)))))
  refine x_aload_n d_Model_flush_5 rfl rfl ?_
  exact k
theorem s_Model_flush_9 {G : xw_G} {F L bc bs : Nat} {pr : Option Value → xw_A → Prop} {px : String → xw_A → Prop} {h : xw_A} {a0 : Nat} {fs_a0 : List Value} {segments_a0 : Int32} (l_a0 : fs_a0.length = 62) (e_a0 : h a0 = some (.inr (11, fs_a0))) (g_a0_segments : fs_a0[(19 : Nat)]? = some (.int segments_a0)) (kr : pr (some (.int segments_a0)) h) : xw G m_Model_flush F L bc bs pr px 9 [some (.ref a0)] [] h := by
  refine x_aload_n d_Model_flush_9 rfl rfl ?_
  refine x_get d_Model_flush_10 f_Model_193 e_a0 g_a0_segments ?_
  exact x_iret d_Model_flush_13 rfl kr
theorem s_Model_optimize_0 {G : xw_G} {F L bc bs : Nat} {pr : Option Value → xw_A → Prop} {px : String → xw_A → Prop} {h : xw_A} {a0 : Nat} {fs_a0 : List Value} {segments_a0 : Int32} (l_a0 : fs_a0.length = 62) (e_a0 : h a0 = some (.inr (11, fs_a0))) (g_a0_segments : fs_a0[(19 : Nat)]? = some (.int segments_a0)) (k : xw G m_Model_optimize F L bc bs pr px 14 [some (.ref a0), some (.int segments_a0), some (.int 0), some (.int 0)] [] (xw_up h a0 (.inr (11, (fs_a0.set 0 (.int 0)))))) : xw G m_Model_optimize F L bc bs pr px 0 [some (.ref a0), none, none, none] [] h := by
  refine x_aload_n d_Model_optimize_0 rfl rfl ?_
  refine x_iconst (v := 0) d_Model_optimize_1 (by decide) ?_
  refine x_put (ty := .int) d_Model_optimize_2 f_Model_130 fw_Model_0.1 fw_Model_0.2 rfl rfl (by simp [l_a0]) e_a0 ?_
  show xw G m_Model_optimize F L bc bs pr px 5 [some (.ref a0), none, none, none] [] (xw_up h a0 (.inr (11, (fs_a0.set 0 (.int 0)))))
  refine x_aload_n d_Model_optimize_5 rfl rfl ?_
  refine x_get d_Model_optimize_6 f_Model_193 (xw_up_s _ _ _) (xw_gn (by decide) g_a0_segments) ?_
  refine x_istore_n d_Model_optimize_9 rfl (by decide) rfl ?_
  show xw G m_Model_optimize F L bc bs pr px 10 [some (.ref a0), some (.int segments_a0), none, none] [] (xw_up h a0 (.inr (11, (fs_a0.set 0 (.int 0)))))
  refine x_iconst (v := 0) d_Model_optimize_10 (by decide) ?_
  refine x_istore_n d_Model_optimize_11 rfl (by decide) rfl ?_
  show xw G m_Model_optimize F L bc bs pr px 12 [some (.ref a0), some (.int segments_a0), some (.int 0), none] [] (xw_up h a0 (.inr (11, (fs_a0.set 0 (.int 0)))))
  refine x_iconst (v := 0) d_Model_optimize_12 (by decide) ?_
  refine x_istore_n d_Model_optimize_13 rfl (by decide) rfl ?_
  show xw G m_Model_optimize F L bc bs pr px 14 [some (.ref a0), some (.int segments_a0), some (.int 0), some (.int 0)] [] (xw_up h a0 (.inr (11, (fs_a0.set 0 (.int 0)))))
  exact k
theorem s_Model_optimize_14 {G : xw_G} {F L bc bs : Nat} {pr : Option Value → xw_A → Prop} {px : String → xw_A → Prop} {h : xw_A} {a0 : Nat} {x1 : Int32} {x2 : Int32} {x3 : Int32} {fs_a0 : List Value} {segments_a0 : Int32} (l_a0 : fs_a0.length = 62) (e_a0 : h a0 = some (.inr (11, fs_a0))) (g_a0_segments : fs_a0[(19 : Nat)]? = some (.int segments_a0)) (kt : segments_a0 ≤ x3 → xw G m_Model_optimize F L bc bs pr px 55 [some (.ref a0), some (.int x1), some (.int x2), none] [] h) (kf : ¬ segments_a0 ≤ x3 → xw G m_Model_optimize F L bc bs pr px 22 [some (.ref a0), some (.int x1), some (.int x2), some (.int x3)] [] h) : xw G m_Model_optimize F L bc bs pr px 14 [some (.ref a0), some (.int x1), some (.int x2), some (.int x3)] [] h := by
  refine x_iload_n d_Model_optimize_14 rfl rfl ?_
  refine x_aload_n d_Model_optimize_15 rfl rfl ?_
  refine x_get d_Model_optimize_16 f_Model_193 e_a0 g_a0_segments ?_
  refine x_icmp_ge (tgt := 55) d_Model_optimize_19 (by decide) (fun hc => ?_) (fun hc => ?_)
  · exact x_le (lv' := [some (.ref a0), some (.int x1), some (.int x2), none]) (xw_le_s (xw_le_s (xw_le_s (xw_le_n xw_le_e)))) (kt hc)
  · exact kf hc
theorem s_Model_optimize_22 {G : xw_G} {F L bc bs : Nat} {pr : Option Value → xw_A → Prop} {px : String → xw_A → Prop} {h : xw_A} {a0 : Nat} {x1 : Int32} {x2 : Int32} {x3 : Int32} {fs_a0 : List Value} {level_a0 : Nat} {row_a0 : Nat} {n_row_a0 : Nat} {f_row_a0 : Nat → Int32} {n_level_a0 : Nat} {f_level_a0 : Nat → Int32} (l_a0 : fs_a0.length = 62) (e_a0 : h a0 = some (.inr (11, fs_a0))) (g_a0_level : fs_a0[(18 : Nat)]? = some (.ref level_a0)) (g_a0_row : fs_a0[(17 : Nat)]? = some (.ref row_a0)) (e_row_a0 : h row_a0 = some (.inl (0, n_row_a0, .inl f_row_a0))) (i_31 : vp_in x3 n_row_a0) (e_level_a0 : h level_a0 = some (.inl (0, n_level_a0, .inl f_level_a0))) (i_32 : vp_in (f_row_a0 x3.toNatClampNeg) n_level_a0) (kt : (f_level_a0 (f_row_a0 x3.toNatClampNeg).toNatClampNeg) ≤ x2 → xw G m_Model_optimize F L bc bs pr px 49 [some (.ref a0), some (.int x1), some (.int x2), some (.int x3)] [] h) (kf : ¬ (f_level_a0 (f_row_a0 x3.toNatClampNeg).toNatClampNeg) ≤ x2 → xw G m_Model_optimize F L bc bs pr px 37 [some (.ref a0), some (.int x1), none, some (.int x3)] [] h) : xw G m_Model_optimize F L bc bs pr px 22 [some (.ref a0), some (.int x1), some (.int x2), some (.int x3)] [] h := by
  refine x_aload_n d_Model_optimize_22 rfl rfl ?_
  refine x_get d_Model_optimize_23 f_Model_50 e_a0 g_a0_level ?_
  refine x_aload_n d_Model_optimize_26 rfl rfl ?_
  refine x_get d_Model_optimize_27 f_Model_47 e_a0 g_a0_row ?_
  refine x_iload_n d_Model_optimize_30 rfl rfl ?_
  refine x_iald d_Model_optimize_31 e_row_a0 i_31 ?_
  refine x_iald d_Model_optimize_32 e_level_a0 i_32 ?_
  refine x_iload_n d_Model_optimize_33 rfl rfl ?_
  refine x_icmp_le (tgt := 49) d_Model_optimize_34 (by decide) (fun hc => ?_) (fun hc => ?_)
  · exact kt hc
  · exact x_le (lv' := [some (.ref a0), some (.int x1), none, some (.int x3)]) (xw_le_s (xw_le_s (xw_le_n (xw_le_s xw_le_e)))) (kf hc)
theorem s_Model_optimize_37 {G : xw_G} {F L bc bs : Nat} {pr : Option Value → xw_A → Prop} {px : String → xw_A → Prop} {h : xw_A} {a0 : Nat} {x1 : Int32} {x3 : Int32} {fs_a0 : List Value} {level_a0 : Nat} {row_a0 : Nat} {n_row_a0 : Nat} {f_row_a0 : Nat → Int32} {n_level_a0 : Nat} {f_level_a0 : Nat → Int32} (l_a0 : fs_a0.length = 62) (e_a0 : h a0 = some (.inr (11, fs_a0))) (g_a0_level : fs_a0[(18 : Nat)]? = some (.ref level_a0)) (g_a0_row : fs_a0[(17 : Nat)]? = some (.ref row_a0)) (e_row_a0 : h row_a0 = some (.inl (0, n_row_a0, .inl f_row_a0))) (i_46 : vp_in x3 n_row_a0) (e_level_a0 : h level_a0 = some (.inl (0, n_level_a0, .inl f_level_a0))) (i_47 : vp_in (f_row_a0 x3.toNatClampNeg) n_level_a0) (k : xw G m_Model_optimize F L bc bs pr px 49 [some (.ref a0), some (.int x1), some (.int (f_level_a0 (f_row_a0 x3.toNatClampNeg).toNatClampNeg)), some (.int x3)] [] h) : xw G m_Model_optimize F L bc bs pr px 37 [some (.ref a0), some (.int x1), none, some (.int x3)] [] h := by
  refine x_aload_n d_Model_optimize_37 rfl rfl ?_
  refine x_get d_Model_optimize_38 f_Model_50 e_a0 g_a0_level ?_
  refine x_aload_n d_Model_optimize_41 rfl rfl ?_
  refine x_get d_Model_optimize_42 f_Model_47 e_a0 g_a0_row ?_
  refine x_iload_n d_Model_optimize_45 rfl rfl ?_
  refine x_iald d_Model_optimize_46 e_row_a0 i_46 ?_
  refine x_iald d_Model_optimize_47 e_level_a0 i_47 ?_
  refine x_istore_n d_Model_optimize_48 rfl (by decide) rfl ?_
  show xw G m_Model_optimize F L bc bs pr px 49 [some (.ref a0), some (.int x1), some (.int (f_level_a0 (f_row_a0 x3.toNatClampNeg).toNatClampNeg)), some (.int x3)] [] h
  exact k
theorem s_Model_optimize_49 {G : xw_G} {F L bc bs : Nat} {pr : Option Value → xw_A → Prop} {px : String → xw_A → Prop} {h : xw_A} {a0 : Nat} {x1 : Int32} {x2 : Int32} {x3 : Int32}  (k : xw G m_Model_optimize F L bc bs pr px 14 [some (.ref a0), some (.int x1), some (.int x2), some (.int (x3 + 1))] [] h) : xw G m_Model_optimize F L bc bs pr px 49 [some (.ref a0), some (.int x1), some (.int x2), some (.int x3)] [] h := by
  refine x_iinc (v := x3 + 1) d_Model_optimize_49 rfl (by rfl) (by decide) rfl ?_
  show xw G m_Model_optimize F L bc bs pr px 52 [some (.ref a0), some (.int x1), some (.int x2), some (.int (x3 + 1))] [] h
  refine x_goto (tgt := 14) d_Model_optimize_52 (by decide) ?_
  exact k
theorem s_Model_optimize_55 {G : xw_G} {F L bc bs : Nat} {pr : Option Value → xw_A → Prop} {px : String → xw_A → Prop} {h : xw_A} {a0 : Nat} {x1 : Int32} {x2 : Int32}  (kt : x1 ≤ 0 → xw G m_Model_optimize F L bc bs pr px 65 [none, some (.int x1), none, none] [] h) (kf : ¬ x1 ≤ 0 → xw G m_Model_optimize F L bc bs pr px 59 [some (.ref a0), some (.int x1), some (.int x2), none] [] h) : xw G m_Model_optimize F L bc bs pr px 55 [some (.ref a0), some (.int x1), some (.int x2), none] [] h := by
  refine x_iload_n d_Model_optimize_55 rfl rfl ?_
  refine x_if_le (tgt := 65) d_Model_optimize_56 (by decide) (fun hc => ?_) (fun hc => ?_)
  · exact x_le (lv' := [none, some (.int x1), none, none]) (xw_le_n (xw_le_s (xw_le_n (xw_le_n xw_le_e)))) (kt hc)
  · exact kf hc
theorem s_Model_optimize_59 {G : xw_G} {F L bc bs : Nat} {pr : Option Value → xw_A → Prop} {px : String → xw_A → Prop} {h : xw_A} {a0 : Nat} {x1 : Int32} {x2 : Int32}  (k : xw G m_Model_optimize F L bc bs pr px 62 [some (.ref a0), some (.int x1), some (.int x2), none] [.int x2, .int ((-1)), .ref a0] h) : xw G m_Model_optimize F L bc bs pr px 59 [some (.ref a0), some (.int x1), some (.int x2), none] [] h := by
  refine x_aload_n d_Model_optimize_59 rfl rfl ?_
  refine x_iconst (v := -1) d_Model_optimize_60 (by decide) ?_
  refine x_iload_n d_Model_optimize_61 rfl rfl ?_
  exact k
theorem s_Model_optimize_65 {G : xw_G} {F L bc bs : Nat} {pr : Option Value → xw_A → Prop} {px : String → xw_A → Prop} {h : xw_A} {x1 : Int32}  (kr : pr (some (.int x1)) h) : xw G m_Model_optimize F L bc bs pr px 65 [none, some (.int x1), none, none] [] h := by
  refine x_iload_n d_Model_optimize_65 rfl rfl ?_
  exact x_iret d_Model_optimize_66 rfl kr
theorem s_Model_begin_0 {G : xw_G} {F L bc bs : Nat} {pr : Option Value → xw_A → Prop} {px : String → xw_A → Prop} {h : xw_A} {a0 : Nat} {fs_a0 : List Value} {open_a0 : Int32} (l_a0 : fs_a0.length = 62) (e_a0 : h a0 = some (.inr (11, fs_a0))) (g_a0_open : fs_a0[(20 : Nat)]? = some (.int open_a0)) (k : xw G m_Model_begin F L bc bs pr px 11 [some (.ref a0), none] [.int 1, .int open_a0, .ref a0] (xw_up h a0 (.inr (11, (fs_a0.set 0 (.int 0)))))) : xw G m_Model_begin F L bc bs pr px 0 [some (.ref a0), none] [] h := by
  refine x_aload_n d_Model_begin_0 rfl rfl ?_
  refine x_iconst (v := 0) d_Model_begin_1 (by decide) ?_
  refine x_put (ty := .int) d_Model_begin_2 f_Model_130 fw_Model_0.1 fw_Model_0.2 rfl rfl (by simp [l_a0]) e_a0 ?_
  show xw G m_Model_begin F L bc bs pr px 5 [some (.ref a0), none] [] (xw_up h a0 (.inr (11, (fs_a0.set 0 (.int 0)))))
  refine x_aload_n d_Model_begin_5 rfl rfl ?_
  refine x_aload_n d_Model_begin_6 rfl rfl ?_
  refine x_get d_Model_begin_7 f_Model_199 (xw_up_s _ _ _) (xw_gn (by decide) g_a0_open) ?_
  refine x_iconst (v := 1) d_Model_begin_10 (by decide) ?_
  exact k
theorem s_Model_begin_14 {G : xw_G} {F L bc bs : Nat} {pr : Option Value → xw_A → Prop} {px : String → xw_A → Prop} {h : xw_A} {a0 : Nat} {y0 : Int32}  (kt : y0 = 0 → xw G m_Model_begin F L bc bs pr px 18 [some (.ref a0), none] [] h) (kf : ¬ y0 = 0 → xw G m_Model_begin F L bc bs pr px 17 [none, none] [] h) : xw G m_Model_begin F L bc bs pr px 14 [some (.ref a0), none] [.int y0] h := by
  refine x_if_eq (tgt := 18) d_Model_begin_14 (by decide) (fun hc => ?_) (fun hc => ?_)
  · exact kt hc
  · exact x_le (lv' := [none, none]) (xw_le_n (xw_le_n xw_le_e)) (kf hc)
theorem s_Model_begin_17 {G : xw_G} {F L bc bs : Nat} {pr : Option Value → xw_A → Prop} {px : String → xw_A → Prop} {h : xw_A}   (kr : pr none h) : xw G m_Model_begin F L bc bs pr px 17 [none, none] [] h := by
  exact x_vret d_Model_begin_17 rfl kr
theorem s_Model_begin_18 {G : xw_G} {F L bc bs : Nat} {pr : Option Value → xw_A → Prop} {px : String → xw_A → Prop} {h : xw_A} {a0 : Nat} {fs_a0 : List Value} (l_a0 : fs_a0.length = 62) (e_a0 : h a0 = some (.inr (11, fs_a0))) (k : xw G m_Model_begin F L bc bs pr px 25 [some (.ref a0), some (.int 0)] [] (xw_up h a0 (.inr (11, (fs_a0.set 20 (.int 1)))))) : xw G m_Model_begin F L bc bs pr px 18 [some (.ref a0), none] [] h := by
  refine x_aload_n d_Model_begin_18 rfl rfl ?_
  refine x_iconst (v := 1) d_Model_begin_19 (by decide) ?_
  refine x_put (ty := .boolean) d_Model_begin_20 f_Model_199 fw_Model_20.1 fw_Model_20.2 rfl rfl (by simp [l_a0]) e_a0 ?_
  show xw G m_Model_begin F L bc bs pr px 23 [some (.ref a0), none] [] (xw_up h a0 (.inr (11, (fs_a0.set 20 (.int 1)))))
  refine x_iconst (v := 0) d_Model_begin_23 (by decide) ?_
  refine x_istore_n d_Model_begin_24 rfl (by decide) rfl ?_
  show xw G m_Model_begin F L bc bs pr px 25 [some (.ref a0), some (.int 0)] [] (xw_up h a0 (.inr (11, (fs_a0.set 20 (.int 1)))))
  exact k
theorem s_Model_begin_25 {G : xw_G} {F L bc bs : Nat} {pr : Option Value → xw_A → Prop} {px : String → xw_A → Prop} {h : xw_A} {a0 : Nat} {x1 : Int32}  (kt : 2304 ≤ x1 → xw G m_Model_begin F L bc bs pr px 50 [some (.ref a0), none] [] h) (kf : ¬ 2304 ≤ x1 → xw G m_Model_begin F L bc bs pr px 32 [some (.ref a0), some (.int x1)] [] h) : xw G m_Model_begin F L bc bs pr px 25 [some (.ref a0), some (.int x1)] [] h := by
  refine x_iload_n d_Model_begin_25 rfl rfl ?_
  refine x_sipush (v := 2304) d_Model_begin_26 (by decide) ?_
  refine x_icmp_ge (tgt := 50) d_Model_begin_29 (by decide) (fun hc => ?_) (fun hc => ?_)
  · exact x_le (lv' := [some (.ref a0), none]) (xw_le_s (xw_le_n xw_le_e)) (kt hc)
  · exact kf hc
theorem s_Model_begin_32 {G : xw_G} {F L bc bs : Nat} {pr : Option Value → xw_A → Prop} {px : String → xw_A → Prop} {h : xw_A} {a0 : Nat} {x1 : Int32} {fs_a0 : List Value} {oldTexts_a0 : Nat} {texts_a0 : Nat} {n_texts_a0 : Nat} {f_texts_a0 : Nat → Int32} {n_oldTexts_a0 : Nat} {f_oldTexts_a0 : Nat → Int32} (l_a0 : fs_a0.length = 62) (e_a0 : h a0 = some (.inr (11, fs_a0))) (g_a0_oldTexts : fs_a0[(21 : Nat)]? = some (.ref oldTexts_a0)) (g_a0_texts : fs_a0[(7 : Nat)]? = some (.ref texts_a0)) (e_texts_a0 : h texts_a0 = some (.inl (0, n_texts_a0, .inl f_texts_a0))) (i_42 : vp_in x1 n_texts_a0) (e_oldTexts_a0 : h oldTexts_a0 = some (.inl (0, n_oldTexts_a0, .inl f_oldTexts_a0))) (i_43 : vp_in x1 n_oldTexts_a0) (k : xw G m_Model_begin F L bc bs pr px 25 [some (.ref a0), some (.int (x1 + 1))] [] (xw_up h oldTexts_a0 (.inl (0, n_oldTexts_a0, .inl (upd f_oldTexts_a0 (x1).toNatClampNeg (f_texts_a0 x1.toNatClampNeg)))))) : xw G m_Model_begin F L bc bs pr px 32 [some (.ref a0), some (.int x1)] [] h := by
  refine x_aload_n d_Model_begin_32 rfl rfl ?_
  refine x_get d_Model_begin_33 f_Model_53 e_a0 g_a0_oldTexts ?_
  refine x_iload_n d_Model_begin_36 rfl rfl ?_
  refine x_aload_n d_Model_begin_37 rfl rfl ?_
  refine x_get d_Model_begin_38 f_Model_29 e_a0 g_a0_texts ?_
  refine x_iload_n d_Model_begin_41 rfl rfl ?_
  refine x_iald d_Model_begin_42 e_texts_a0 i_42 ?_
  refine x_iast d_Model_begin_43 e_oldTexts_a0 i_43 ?_
  refine x_iinc (v := x1 + 1) d_Model_begin_44 rfl (by rfl) (by decide) rfl ?_
  show xw G m_Model_begin F L bc bs pr px 47 [some (.ref a0), some (.int (x1 + 1))] [] (xw_up h oldTexts_a0 (.inl (0, n_oldTexts_a0, .inl (upd f_oldTexts_a0 (x1).toNatClampNeg (f_texts_a0 x1.toNatClampNeg)))))
  refine x_goto (tgt := 25) d_Model_begin_47 (by decide) ?_
  exact k
theorem s_Model_begin_50 {G : xw_G} {F L bc bs : Nat} {pr : Option Value → xw_A → Prop} {px : String → xw_A → Prop} {h : xw_A} {a0 : Nat}  (k : xw G m_Model_begin F L bc bs pr px 52 [some (.ref a0), some (.int 0)] [] h) : xw G m_Model_begin F L bc bs pr px 50 [some (.ref a0), none] [] h := by
  refine x_iconst (v := 0) d_Model_begin_50 (by decide) ?_
  refine x_istore_n d_Model_begin_51 rfl (by decide) rfl ?_
  show xw G m_Model_begin F L bc bs pr px 52 [some (.ref a0), some (.int 0)] [] h
  exact k
theorem s_Model_begin_52 {G : xw_G} {F L bc bs : Nat} {pr : Option Value → xw_A → Prop} {px : String → xw_A → Prop} {h : xw_A} {a0 : Nat} {x1 : Int32}  (kt : 48 ≤ x1 → xw G m_Model_begin F L bc bs pr px 76 [some (.ref a0), none] [] h) (kf : ¬ 48 ≤ x1 → xw G m_Model_begin F L bc bs pr px 58 [some (.ref a0), some (.int x1)] [] h) : xw G m_Model_begin F L bc bs pr px 52 [some (.ref a0), some (.int x1)] [] h := by
  refine x_iload_n d_Model_begin_52 rfl rfl ?_
  refine x_bipush (v := 48) d_Model_begin_53 (by decide) ?_
  refine x_icmp_ge (tgt := 76) d_Model_begin_55 (by decide) (fun hc => ?_) (fun hc => ?_)
  · exact x_le (lv' := [some (.ref a0), none]) (xw_le_s (xw_le_n xw_le_e)) (kt hc)
  · exact kf hc
theorem s_Model_begin_58 {G : xw_G} {F L bc bs : Nat} {pr : Option Value → xw_A → Prop} {px : String → xw_A → Prop} {h : xw_A} {a0 : Nat} {x1 : Int32} {fs_a0 : List Value} {oldSizes_a0 : Nat} {sizes_a0 : Nat} {n_sizes_a0 : Nat} {f_sizes_a0 : Nat → Int32} {n_oldSizes_a0 : Nat} {f_oldSizes_a0 : Nat → Int32} (l_a0 : fs_a0.length = 62) (e_a0 : h a0 = some (.inr (11, fs_a0))) (g_a0_oldSizes : fs_a0[(22 : Nat)]? = some (.ref oldSizes_a0)) (g_a0_sizes : fs_a0[(8 : Nat)]? = some (.ref sizes_a0)) (e_sizes_a0 : h sizes_a0 = some (.inl (0, n_sizes_a0, .inl f_sizes_a0))) (i_68 : vp_in x1 n_sizes_a0) (e_oldSizes_a0 : h oldSizes_a0 = some (.inl (0, n_oldSizes_a0, .inl f_oldSizes_a0))) (i_69 : vp_in x1 n_oldSizes_a0) (k : xw G m_Model_begin F L bc bs pr px 52 [some (.ref a0), some (.int (x1 + 1))] [] (xw_up h oldSizes_a0 (.inl (0, n_oldSizes_a0, .inl (upd f_oldSizes_a0 (x1).toNatClampNeg (f_sizes_a0 x1.toNatClampNeg)))))) : xw G m_Model_begin F L bc bs pr px 58 [some (.ref a0), some (.int x1)] [] h := by
  refine x_aload_n d_Model_begin_58 rfl rfl ?_
  refine x_get d_Model_begin_59 f_Model_56 e_a0 g_a0_oldSizes ?_
  refine x_iload_n d_Model_begin_62 rfl rfl ?_
  refine x_aload_n d_Model_begin_63 rfl rfl ?_
  refine x_get d_Model_begin_64 f_Model_32 e_a0 g_a0_sizes ?_
  refine x_iload_n d_Model_begin_67 rfl rfl ?_
  refine x_iald d_Model_begin_68 e_sizes_a0 i_68 ?_
  refine x_iast d_Model_begin_69 e_oldSizes_a0 i_69 ?_
  refine x_iinc (v := x1 + 1) d_Model_begin_70 rfl (by rfl) (by decide) rfl ?_
  show xw G m_Model_begin F L bc bs pr px 73 [some (.ref a0), some (.int (x1 + 1))] [] (xw_up h oldSizes_a0 (.inl (0, n_oldSizes_a0, .inl (upd f_oldSizes_a0 (x1).toNatClampNeg (f_sizes_a0 x1.toNatClampNeg)))))
  refine x_goto (tgt := 52) d_Model_begin_73 (by decide) ?_
  exact k
theorem s_Model_begin_76 {G : xw_G} {F L bc bs : Nat} {pr : Option Value → xw_A → Prop} {px : String → xw_A → Prop} {h : xw_A} {a0 : Nat}  (k : xw G m_Model_begin F L bc bs pr px 78 [some (.ref a0), some (.int 0)] [] h) : xw G m_Model_begin F L bc bs pr px 76 [some (.ref a0), none] [] h := by
  refine x_iconst (v := 0) d_Model_begin_76 (by decide) ?_
  refine x_istore_n d_Model_begin_77 rfl (by decide) rfl ?_
  show xw G m_Model_begin F L bc bs pr px 78 [some (.ref a0), some (.int 0)] [] h
  exact k
theorem s_Model_begin_78 {G : xw_G} {F L bc bs : Nat} {pr : Option Value → xw_A → Prop} {px : String → xw_A → Prop} {h : xw_A} {a0 : Nat} {x1 : Int32}  (kt : 24 ≤ x1 → xw G m_Model_begin F L bc bs pr px 102 [some (.ref a0), none] [] h) (kf : ¬ 24 ≤ x1 → xw G m_Model_begin F L bc bs pr px 84 [some (.ref a0), some (.int x1)] [] h) : xw G m_Model_begin F L bc bs pr px 78 [some (.ref a0), some (.int x1)] [] h := by
  refine x_iload_n d_Model_begin_78 rfl rfl ?_
  refine x_bipush (v := 24) d_Model_begin_79 (by decide) ?_
  refine x_icmp_ge (tgt := 102) d_Model_begin_81 (by decide) (fun hc => ?_) (fun hc => ?_)
  · exact x_le (lv' := [some (.ref a0), none]) (xw_le_s (xw_le_n xw_le_e)) (kt hc)
  · exact kf hc
theorem s_Model_begin_84 {G : xw_G} {F L bc bs : Nat} {pr : Option Value → xw_A → Prop} {px : String → xw_A → Prop} {h : xw_A} {a0 : Nat} {x1 : Int32} {fs_a0 : List Value} {oldLive_a0 : Nat} {live_a0 : Nat} {n_live_a0 : Nat} {f_live_a0 : Nat → Int32} {n_oldLive_a0 : Nat} {f_oldLive_a0 : Nat → Int32} (l_a0 : fs_a0.length = 62) (e_a0 : h a0 = some (.inr (11, fs_a0))) (g_a0_oldLive : fs_a0[(24 : Nat)]? = some (.ref oldLive_a0)) (g_a0_live : fs_a0[(14 : Nat)]? = some (.ref live_a0)) (e_live_a0 : h live_a0 = some (.inl (0, n_live_a0, .inl f_live_a0))) (i_94 : vp_in x1 n_live_a0) (e_oldLive_a0 : h oldLive_a0 = some (.inl (0, n_oldLive_a0, .inl f_oldLive_a0))) (i_95 : vp_in x1 n_oldLive_a0) (k : xw G m_Model_begin F L bc bs pr px 78 [some (.ref a0), some (.int (x1 + 1))] [] (xw_up h oldLive_a0 (.inl (0, n_oldLive_a0, .inl (upd f_oldLive_a0 (x1).toNatClampNeg (f_live_a0 x1.toNatClampNeg)))))) : xw G m_Model_begin F L bc bs pr px 84 [some (.ref a0), some (.int x1)] [] h := by
  refine x_aload_n d_Model_begin_84 rfl rfl ?_
  refine x_get d_Model_begin_85 f_Model_62 e_a0 g_a0_oldLive ?_
  refine x_iload_n d_Model_begin_88 rfl rfl ?_
  refine x_aload_n d_Model_begin_89 rfl rfl ?_
  refine x_get d_Model_begin_90 f_Model_44 e_a0 g_a0_live ?_
  refine x_iload_n d_Model_begin_93 rfl rfl ?_
  refine x_iald d_Model_begin_94 e_live_a0 i_94 ?_
  refine x_iast d_Model_begin_95 e_oldLive_a0 i_95 ?_
  refine x_iinc (v := x1 + 1) d_Model_begin_96 rfl (by rfl) (by decide) rfl ?_
  show xw G m_Model_begin F L bc bs pr px 99 [some (.ref a0), some (.int (x1 + 1))] [] (xw_up h oldLive_a0 (.inl (0, n_oldLive_a0, .inl (upd f_oldLive_a0 (x1).toNatClampNeg (f_live_a0 x1.toNatClampNeg)))))
  refine x_goto (tgt := 78) d_Model_begin_99 (by decide) ?_
  exact k
theorem s_Model_begin_102 {G : xw_G} {F L bc bs : Nat} {pr : Option Value → xw_A → Prop} {px : String → xw_A → Prop} {h : xw_A} {a0 : Nat}  (k : xw G m_Model_begin F L bc bs pr px 104 [some (.ref a0), some (.int 0)] [] h) : xw G m_Model_begin F L bc bs pr px 102 [some (.ref a0), none] [] h := by
  refine x_iconst (v := 0) d_Model_begin_102 (by decide) ?_
  refine x_istore_n d_Model_begin_103 rfl (by decide) rfl ?_
  show xw G m_Model_begin F L bc bs pr px 104 [some (.ref a0), some (.int 0)] [] h
  exact k
theorem s_Model_begin_104 {G : xw_G} {F L bc bs : Nat} {pr : Option Value → xw_A → Prop} {px : String → xw_A → Prop} {h : xw_A} {a0 : Nat} {x1 : Int32}  (kt : 600 ≤ x1 → xw G m_Model_begin F L bc bs pr px 141 [some (.ref a0), none] [] h) (kf : ¬ 600 ≤ x1 → xw G m_Model_begin F L bc bs pr px 111 [some (.ref a0), some (.int x1)] [] h) : xw G m_Model_begin F L bc bs pr px 104 [some (.ref a0), some (.int x1)] [] h := by
  refine x_iload_n d_Model_begin_104 rfl rfl ?_
  refine x_sipush (v := 600) d_Model_begin_105 (by decide) ?_
  refine x_icmp_ge (tgt := 141) d_Model_begin_108 (by decide) (fun hc => ?_) (fun hc => ?_)
  · exact x_le (lv' := [some (.ref a0), none]) (xw_le_s (xw_le_n xw_le_e)) (kt hc)
  · exact kf hc
theorem s_Model_begin_111 {G : xw_G} {F L bc bs : Nat} {pr : Option Value → xw_A → Prop} {px : String → xw_A → Prop} {h : xw_A} {a0 : Nat} {x1 : Int32} {fs_a0 : List Value} {oldLies_a0 : Nat} {lies_a0 : Nat} {n_lies_a0 : Nat} {f_lies_a0 : Nat → Int32} {n_oldLies_a0 : Nat} {f_oldLies_a0 : Nat → Int32} {oldRow_a0 : Nat} {row_a0 : Nat} {n_row_a0 : Nat} {f_row_a0 : Nat → Int32} {n_oldRow_a0 : Nat} {f_oldRow_a0 : Nat → Int32} (l_a0 : fs_a0.length = 62) (e_a0 : h a0 = some (.inr (11, fs_a0))) (g_a0_oldLies : fs_a0[(23 : Nat)]? = some (.ref oldLies_a0)) (g_a0_lies : fs_a0[(13 : Nat)]? = some (.ref lies_a0)) (e_lies_a0 : h lies_a0 = some (.inl (0, n_lies_a0, .inl f_lies_a0))) (i_121 : vp_in x1 n_lies_a0) (e_oldLies_a0 : h oldLies_a0 = some (.inl (0, n_oldLies_a0, .inl f_oldLies_a0))) (i_122 : vp_in x1 n_oldLies_a0) (g_a0_oldRow : fs_a0[(25 : Nat)]? = some (.ref oldRow_a0)) (g_a0_row : fs_a0[(17 : Nat)]? = some (.ref row_a0)) (e_row_a0 : h row_a0 = some (.inl (0, n_row_a0, .inl f_row_a0))) (i_133 : vp_in x1 n_row_a0) (n_row_a0_oldLies_a0 : row_a0 ≠ oldLies_a0) (e_oldRow_a0 : h oldRow_a0 = some (.inl (0, n_oldRow_a0, .inl f_oldRow_a0))) (i_134 : vp_in x1 n_oldRow_a0) (n_oldRow_a0_oldLies_a0 : oldRow_a0 ≠ oldLies_a0) (k : xw G m_Model_begin F L bc bs pr px 104 [some (.ref a0), some (.int (x1 + 1))] [] (xw_up (xw_up h oldLies_a0 (.inl (0, n_oldLies_a0, .inl (upd f_oldLies_a0 (x1).toNatClampNeg (f_lies_a0 x1.toNatClampNeg))))) oldRow_a0 (.inl (0, n_oldRow_a0, .inl (upd f_oldRow_a0 (x1).toNatClampNeg (f_row_a0 x1.toNatClampNeg)))))) : xw G m_Model_begin F L bc bs pr px 111 [some (.ref a0), some (.int x1)] [] h := by
  refine x_aload_n d_Model_begin_111 rfl rfl ?_
  refine x_get d_Model_begin_112 f_Model_59 e_a0 g_a0_oldLies ?_
  refine x_iload_n d_Model_begin_115 rfl rfl ?_
  refine x_aload_n d_Model_begin_116 rfl rfl ?_
  refine x_get d_Model_begin_117 f_Model_41 e_a0 g_a0_lies ?_
  refine x_iload_n d_Model_begin_120 rfl rfl ?_
  refine x_iald d_Model_begin_121 e_lies_a0 i_121 ?_
  refine x_iast d_Model_begin_122 e_oldLies_a0 i_122 ?_
  refine x_aload_n d_Model_begin_123 rfl rfl ?_
  refine x_get d_Model_begin_124 f_Model_65 ((xw_up_n _ _ (xw_ne e_a0 e_oldLies_a0 (by simp))).trans e_a0) g_a0_oldRow ?_
  refine x_iload_n d_Model_begin_127 rfl rfl ?_
  refine x_aload_n d_Model_begin_128 rfl rfl ?_
  refine x_get d_Model_begin_129 f_Model_47 ((xw_up_n _ _ (xw_ne e_a0 e_oldLies_a0 (by simp))).trans e_a0) g_a0_row ?_
  refine x_iload_n d_Model_begin_132 rfl rfl ?_
  refine x_iald d_Model_begin_133 ((xw_up_n _ _ n_row_a0_oldLies_a0).trans e_row_a0) i_133 ?_
  refine x_iast d_Model_begin_134 ((xw_up_n _ _ n_oldRow_a0_oldLies_a0).trans e_oldRow_a0) i_134 ?_
  refine x_iinc (v := x1 + 1) d_Model_begin_135 rfl (by rfl) (by decide) rfl ?_
  show xw G m_Model_begin F L bc bs pr px 138 [some (.ref a0), some (.int (x1 + 1))] [] (xw_up (xw_up h oldLies_a0 (.inl (0, n_oldLies_a0, .inl (upd f_oldLies_a0 (x1).toNatClampNeg (f_lies_a0 x1.toNatClampNeg))))) oldRow_a0 (.inl (0, n_oldRow_a0, .inl (upd f_oldRow_a0 (x1).toNatClampNeg (f_row_a0 x1.toNatClampNeg)))))
  refine x_goto (tgt := 104) d_Model_begin_138 (by decide) ?_
  exact k
theorem s_Model_begin_141 {G : xw_G} {F L bc bs : Nat} {pr : Option Value → xw_A → Prop} {px : String → xw_A → Prop} {h : xw_A} {a0 : Nat} {fs_a0 : List Value} {versions_a0 : Int32} {segments_a0 : Int32} (l_a0 : fs_a0.length = 62) (e_a0 : h a0 = some (.inr (11, fs_a0))) (g_a0_versions : fs_a0[(15 : Nat)]? = some (.int versions_a0)) (g_a0_segments : fs_a0[(19 : Nat)]? = some (.int segments_a0)) (kr : pr none (xw_up (xw_up h a0 (.inr (11, (fs_a0.set 26 (.int versions_a0))))) a0 (.inr (11, ((fs_a0.set 26 (.int versions_a0)).set 27 (.int segments_a0)))))) : xw G m_Model_begin F L bc bs pr px 141 [some (.ref a0), none] [] h := by
  refine x_aload_n d_Model_begin_141 rfl rfl ?_
  refine x_aload_n d_Model_begin_142 rfl rfl ?_
  refine x_get d_Model_begin_143 f_Model_165 e_a0 g_a0_versions ?_
  refine x_put (ty := .int) d_Model_begin_146 f_Model_203 fw_Model_26.1 fw_Model_26.2 rfl rfl (by simp [l_a0]) e_a0 ?_
  show xw G m_Model_begin F L bc bs pr px 149 [some (.ref a0), none] [] (xw_up h a0 (.inr (11, (fs_a0.set 26 (.int versions_a0)))))
  refine x_aload_n d_Model_begin_149 rfl rfl ?_
  refine x_aload_n d_Model_begin_150 rfl rfl ?_
  refine x_get d_Model_begin_151 f_Model_193 (xw_up_s _ _ _) (xw_gn (by decide) g_a0_segments) ?_
  refine x_put (ty := .int) d_Model_begin_154 f_Model_206 fw_Model_27.1 fw_Model_27.2 rfl rfl (by simp [l_a0]) (xw_up_s _ _ _) ?_
  show xw G m_Model_begin F L bc bs pr px 157 [some (.ref a0), none] [] (xw_up (xw_up h a0 (.inr (11, (fs_a0.set 26 (.int versions_a0))))) a0 (.inr (11, ((fs_a0.set 26 (.int versions_a0)).set 27 (.int segments_a0)))))
  exact x_vret d_Model_begin_157 rfl kr
theorem s_Model_commit_0 {G : xw_G} {F L bc bs : Nat} {pr : Option Value → xw_A → Prop} {px : String → xw_A → Prop} {h : xw_A} {a0 : Nat} {fs_a0 : List Value} {open_a0 : Int32} (l_a0 : fs_a0.length = 62) (e_a0 : h a0 = some (.inr (11, fs_a0))) (g_a0_open : fs_a0[(20 : Nat)]? = some (.int open_a0)) (kt : ¬ open_a0 = 0 → xw G m_Model_commit F L bc bs pr px 17 [some (.ref a0)] [.ref a0] (xw_up h a0 (.inr (11, (fs_a0.set 0 (.int 0)))))) (kf : open_a0 = 0 → xw G m_Model_commit F L bc bs pr px 13 [some (.ref a0)] [.ref a0] (xw_up h a0 (.inr (11, (fs_a0.set 0 (.int 0)))))) : xw G m_Model_commit F L bc bs pr px 0 [some (.ref a0)] [] h := by
  refine x_aload_n d_Model_commit_0 rfl rfl ?_
  refine x_iconst (v := 0) d_Model_commit_1 (by decide) ?_
  refine x_put (ty := .int) d_Model_commit_2 f_Model_130 fw_Model_0.1 fw_Model_0.2 rfl rfl (by simp [l_a0]) e_a0 ?_
  show xw G m_Model_commit F L bc bs pr px 5 [some (.ref a0)] [] (xw_up h a0 (.inr (11, (fs_a0.set 0 (.int 0)))))
  refine x_aload_n d_Model_commit_5 rfl rfl ?_
  refine x_aload_n d_Model_commit_6 rfl rfl ?_
  refine x_get d_Model_commit_7 f_Model_199 (xw_up_s _ _ _) (xw_gn (by decide) g_a0_open) ?_
  refine x_if_ne (tgt := 17) d_Model_commit_10 (by decide) (fun hc => ?_) (fun hc => ?_)
  · exact kt hc
  · exact kf hc
theorem s_Model_commit_13 {G : xw_G} {F L bc bs : Nat} {pr : Option Value → xw_A → Prop} {px : String → xw_A → Prop} {h : xw_A} {a0 : Nat}  (k : xw G m_Model_commit F L bc bs pr px 18 [some (.ref a0)] [.int 1, .ref a0] h) : xw G m_Model_commit F L bc bs pr px 13 [some (.ref a0)] [.ref a0] h := by
  refine x_iconst (v := 1) d_Model_commit_13 (by decide) ?_
  refine x_goto (tgt := 18) d_Model_commit_14 (by decide) ?_
  exact k
theorem s_Model_commit_17 {G : xw_G} {F L bc bs : Nat} {pr : Option Value → xw_A → Prop} {px : String → xw_A → Prop} {h : xw_A} {a0 : Nat}  (k : xw G m_Model_commit F L bc bs pr px 18 [some (.ref a0)] [.int 0, .ref a0] h) : xw G m_Model_commit F L bc bs pr px 17 [some (.ref a0)] [.ref a0] h := by
  refine x_iconst (v := 0) d_Model_commit_17 (by decide) ?_
  exact k
theorem s_Model_commit_18 {G : xw_G} {F L bc bs : Nat} {pr : Option Value → xw_A → Prop} {px : String → xw_A → Prop} {h : xw_A} {a0 : Nat} {y0 : Int32}  (k : xw G m_Model_commit F L bc bs pr px 19 [some (.ref a0)] [.int 1, .int y0, .ref a0] h) : xw G m_Model_commit F L bc bs pr px 18 [some (.ref a0)] [.int y0, .ref a0] h := by
  refine x_iconst (v := 1) d_Model_commit_18 (by decide) ?_
  exact k
theorem s_Model_commit_22 {G : xw_G} {F L bc bs : Nat} {pr : Option Value → xw_A → Prop} {px : String → xw_A → Prop} {h : xw_A} {a0 : Nat} {y0 : Int32}  (kt : y0 = 0 → xw G m_Model_commit F L bc bs pr px 27 [some (.ref a0)] [] h) (kf : ¬ y0 = 0 → xw G m_Model_commit F L bc bs pr px 25 [none] [] h) : xw G m_Model_commit F L bc bs pr px 22 [some (.ref a0)] [.int y0] h := by
  refine x_if_eq (tgt := 27) d_Model_commit_22 (by decide) (fun hc => ?_) (fun hc => ?_)
  · exact kt hc
  · exact x_le (lv' := [none]) (xw_le_n xw_le_e) (kf hc)
theorem s_Model_commit_25 {G : xw_G} {F L bc bs : Nat} {pr : Option Value → xw_A → Prop} {px : String → xw_A → Prop} {h : xw_A}   (kr : pr (some (.int 0)) h) : xw G m_Model_commit F L bc bs pr px 25 [none] [] h := by
  refine x_iconst (v := 0) d_Model_commit_25 (by decide) ?_
  exact x_iret d_Model_commit_26 rfl kr
theorem s_Model_commit_27 {G : xw_G} {F L bc bs : Nat} {pr : Option Value → xw_A → Prop} {px : String → xw_A → Prop} {h : xw_A} {a0 : Nat} {fs_a0 : List Value} (l_a0 : fs_a0.length = 62) (e_a0 : h a0 = some (.inr (11, fs_a0))) (k : xw G m_Model_commit F L bc bs pr px 33 [some (.ref a0)] [.ref a0] (xw_up h a0 (.inr (11, (fs_a0.set 20 (.int 0)))))) : xw G m_Model_commit F L bc bs pr px 27 [some (.ref a0)] [] h := by
  refine x_aload_n d_Model_commit_27 rfl rfl ?_
  refine x_iconst (v := 0) d_Model_commit_28 (by decide) ?_
  refine x_put (ty := .boolean) d_Model_commit_29 f_Model_199 fw_Model_20.1 fw_Model_20.2 rfl rfl (by simp [l_a0]) e_a0 ?_
  show xw G m_Model_commit F L bc bs pr px 32 [some (.ref a0)] [] (xw_up h a0 (.inr (11, (fs_a0.set 20 (.int 0)))))
  refine x_aload_n d_Model_commit_32 rfl rfl ?_
  exact k
theorem s_Model_commit_36 {G : xw_G} {F L bc bs : Nat} {pr : Option Value → xw_A → Prop} {px : String → xw_A → Prop} {h : xw_A} {a0 : Nat} {fs_a0 : List Value} {segments_a0 : Int32} (l_a0 : fs_a0.length = 62) (e_a0 : h a0 = some (.inr (11, fs_a0))) (g_a0_segments : fs_a0[(19 : Nat)]? = some (.int segments_a0)) (kr : pr (some (.int segments_a0)) h) : xw G m_Model_commit F L bc bs pr px 36 [some (.ref a0)] [] h := by
  refine x_aload_n d_Model_commit_36 rfl rfl ?_
  refine x_get d_Model_commit_37 f_Model_193 e_a0 g_a0_segments ?_
  exact x_iret d_Model_commit_40 rfl kr
theorem s_Model_rollback_0 {G : xw_G} {F L bc bs : Nat} {pr : Option Value → xw_A → Prop} {px : String → xw_A → Prop} {h : xw_A} {a0 : Nat} {fs_a0 : List Value} {open_a0 : Int32} (l_a0 : fs_a0.length = 62) (e_a0 : h a0 = some (.inr (11, fs_a0))) (g_a0_open : fs_a0[(20 : Nat)]? = some (.int open_a0)) (kt : ¬ open_a0 = 0 → xw G m_Model_rollback F L bc bs pr px 17 [some (.ref a0), none] [.ref a0] (xw_up h a0 (.inr (11, (fs_a0.set 0 (.int 0)))))) (kf : open_a0 = 0 → xw G m_Model_rollback F L bc bs pr px 13 [some (.ref a0), none] [.ref a0] (xw_up h a0 (.inr (11, (fs_a0.set 0 (.int 0)))))) : xw G m_Model_rollback F L bc bs pr px 0 [some (.ref a0), none] [] h := by
  refine x_aload_n d_Model_rollback_0 rfl rfl ?_
  refine x_iconst (v := 0) d_Model_rollback_1 (by decide) ?_
  refine x_put (ty := .int) d_Model_rollback_2 f_Model_130 fw_Model_0.1 fw_Model_0.2 rfl rfl (by simp [l_a0]) e_a0 ?_
  show xw G m_Model_rollback F L bc bs pr px 5 [some (.ref a0), none] [] (xw_up h a0 (.inr (11, (fs_a0.set 0 (.int 0)))))
  refine x_aload_n d_Model_rollback_5 rfl rfl ?_
  refine x_aload_n d_Model_rollback_6 rfl rfl ?_
  refine x_get d_Model_rollback_7 f_Model_199 (xw_up_s _ _ _) (xw_gn (by decide) g_a0_open) ?_
  refine x_if_ne (tgt := 17) d_Model_rollback_10 (by decide) (fun hc => ?_) (fun hc => ?_)
  · exact kt hc
  · exact kf hc
theorem s_Model_rollback_13 {G : xw_G} {F L bc bs : Nat} {pr : Option Value → xw_A → Prop} {px : String → xw_A → Prop} {h : xw_A} {a0 : Nat}  (k : xw G m_Model_rollback F L bc bs pr px 18 [some (.ref a0), none] [.int 1, .ref a0] h) : xw G m_Model_rollback F L bc bs pr px 13 [some (.ref a0), none] [.ref a0] h := by
  refine x_iconst (v := 1) d_Model_rollback_13 (by decide) ?_
  refine x_goto (tgt := 18) d_Model_rollback_14 (by decide) ?_
  exact k
theorem s_Model_rollback_17 {G : xw_G} {F L bc bs : Nat} {pr : Option Value → xw_A → Prop} {px : String → xw_A → Prop} {h : xw_A} {a0 : Nat}  (k : xw G m_Model_rollback F L bc bs pr px 18 [some (.ref a0), none] [.int 0, .ref a0] h) : xw G m_Model_rollback F L bc bs pr px 17 [some (.ref a0), none] [.ref a0] h := by
  refine x_iconst (v := 0) d_Model_rollback_17 (by decide) ?_
  exact k
theorem s_Model_rollback_18 {G : xw_G} {F L bc bs : Nat} {pr : Option Value → xw_A → Prop} {px : String → xw_A → Prop} {h : xw_A} {a0 : Nat} {y0 : Int32}  (k : xw G m_Model_rollback F L bc bs pr px 19 [some (.ref a0), none] [.int 1, .int y0, .ref a0] h) : xw G m_Model_rollback F L bc bs pr px 18 [some (.ref a0), none] [.int y0, .ref a0] h := by
  refine x_iconst (v := 1) d_Model_rollback_18 (by decide) ?_
  exact k
theorem s_Model_rollback_22 {G : xw_G} {F L bc bs : Nat} {pr : Option Value → xw_A → Prop} {px : String → xw_A → Prop} {h : xw_A} {a0 : Nat} {y0 : Int32}  (kt : y0 = 0 → xw G m_Model_rollback F L bc bs pr px 27 [some (.ref a0), none] [] h) (kf : ¬ y0 = 0 → xw G m_Model_rollback F L bc bs pr px 25 [none, none] [] h) : xw G m_Model_rollback F L bc bs pr px 22 [some (.ref a0), none] [.int y0] h := by
  refine x_if_eq (tgt := 27) d_Model_rollback_22 (by decide) (fun hc => ?_) (fun hc => ?_)
  · exact kt hc
  · exact x_le (lv' := [none, none]) (xw_le_n (xw_le_n xw_le_e)) (kf hc)
theorem s_Model_rollback_25 {G : xw_G} {F L bc bs : Nat} {pr : Option Value → xw_A → Prop} {px : String → xw_A → Prop} {h : xw_A}   (kr : pr (some (.int 0)) h) : xw G m_Model_rollback F L bc bs pr px 25 [none, none] [] h := by
  refine x_iconst (v := 0) d_Model_rollback_25 (by decide) ?_
  exact x_iret d_Model_rollback_26 rfl kr
theorem s_Model_rollback_27 {G : xw_G} {F L bc bs : Nat} {pr : Option Value → xw_A → Prop} {px : String → xw_A → Prop} {h : xw_A} {a0 : Nat} {fs_a0 : List Value} (l_a0 : fs_a0.length = 62) (e_a0 : h a0 = some (.inr (11, fs_a0))) (k : xw G m_Model_rollback F L bc bs pr px 34 [some (.ref a0), some (.int 0)] [] (xw_up h a0 (.inr (11, (fs_a0.set 20 (.int 0)))))) : xw G m_Model_rollback F L bc bs pr px 27 [some (.ref a0), none] [] h := by
  refine x_aload_n d_Model_rollback_27 rfl rfl ?_
  refine x_iconst (v := 0) d_Model_rollback_28 (by decide) ?_
  refine x_put (ty := .boolean) d_Model_rollback_29 f_Model_199 fw_Model_20.1 fw_Model_20.2 rfl rfl (by simp [l_a0]) e_a0 ?_
  show xw G m_Model_rollback F L bc bs pr px 32 [some (.ref a0), none] [] (xw_up h a0 (.inr (11, (fs_a0.set 20 (.int 0)))))
  refine x_iconst (v := 0) d_Model_rollback_32 (by decide) ?_
  refine x_istore_n d_Model_rollback_33 rfl (by decide) rfl ?_
  show xw G m_Model_rollback F L bc bs pr px 34 [some (.ref a0), some (.int 0)] [] (xw_up h a0 (.inr (11, (fs_a0.set 20 (.int 0)))))
  exact k
theorem s_Model_rollback_34 {G : xw_G} {F L bc bs : Nat} {pr : Option Value → xw_A → Prop} {px : String → xw_A → Prop} {h : xw_A} {a0 : Nat} {x1 : Int32}  (kt : 2304 ≤ x1 → xw G m_Model_rollback F L bc bs pr px 59 [some (.ref a0), none] [] h) (kf : ¬ 2304 ≤ x1 → xw G m_Model_rollback F L bc bs pr px 41 [some (.ref a0), some (.int x1)] [] h) : xw G m_Model_rollback F L bc bs pr px 34 [some (.ref a0), some (.int x1)] [] h := by
  refine x_iload_n d_Model_rollback_34 rfl rfl ?_
  refine x_sipush (v := 2304) d_Model_rollback_35 (by decide) ?_
  refine x_icmp_ge (tgt := 59) d_Model_rollback_38 (by decide) (fun hc => ?_) (fun hc => ?_)
  · exact x_le (lv' := [some (.ref a0), none]) (xw_le_s (xw_le_n xw_le_e)) (kt hc)
  · exact kf hc
theorem s_Model_rollback_41 {G : xw_G} {F L bc bs : Nat} {pr : Option Value → xw_A → Prop} {px : String → xw_A → Prop} {h : xw_A} {a0 : Nat} {x1 : Int32} {fs_a0 : List Value} {texts_a0 : Nat} {oldTexts_a0 : Nat} {n_oldTexts_a0 : Nat} {f_oldTexts_a0 : Nat → Int32} {n_texts_a0 : Nat} {f_texts_a0 : Nat → Int32} (l_a0 : fs_a0.length = 62) (e_a0 : h a0 = some (.inr (11, fs_a0))) (g_a0_texts : fs_a0[(7 : Nat)]? = some (.ref texts_a0)) (g_a0_oldTexts : fs_a0[(21 : Nat)]? = some (.ref oldTexts_a0)) (e_oldTexts_a0 : h oldTexts_a0 = some (.inl (0, n_oldTexts_a0, .inl f_oldTexts_a0))) (i_51 : vp_in x1 n_oldTexts_a0) (e_texts_a0 : h texts_a0 = some (.inl (0, n_texts_a0, .inl f_texts_a0))) (i_52 : vp_in x1 n_texts_a0) (k : xw G m_Model_rollback F L bc bs pr px 34 [some (.ref a0), some (.int (x1 + 1))] [] (xw_up h texts_a0 (.inl (0, n_texts_a0, .inl (upd f_texts_a0 (x1).toNatClampNeg (f_oldTexts_a0 x1.toNatClampNeg)))))) : xw G m_Model_rollback F L bc bs pr px 41 [some (.ref a0), some (.int x1)] [] h := by
  refine x_aload_n d_Model_rollback_41 rfl rfl ?_
  refine x_get d_Model_rollback_42 f_Model_29 e_a0 g_a0_texts ?_
  refine x_iload_n d_Model_rollback_45 rfl rfl ?_
  refine x_aload_n d_Model_rollback_46 rfl rfl ?_
  refine x_get d_Model_rollback_47 f_Model_53 e_a0 g_a0_oldTexts ?_
  refine x_iload_n d_Model_rollback_50 rfl rfl ?_
  refine x_iald d_Model_rollback_51 e_oldTexts_a0 i_51 ?_
  refine x_iast d_Model_rollback_52 e_texts_a0 i_52 ?_
  refine x_iinc (v := x1 + 1) d_Model_rollback_53 rfl (by rfl) (by decide) rfl ?_
  show xw G m_Model_rollback F L bc bs pr px 56 [some (.ref a0), some (.int (x1 + 1))] [] (xw_up h texts_a0 (.inl (0, n_texts_a0, .inl (upd f_texts_a0 (x1).toNatClampNeg (f_oldTexts_a0 x1.toNatClampNeg)))))
  refine x_goto (tgt := 34) d_Model_rollback_56 (by decide) ?_
  exact k
theorem s_Model_rollback_59 {G : xw_G} {F L bc bs : Nat} {pr : Option Value → xw_A → Prop} {px : String → xw_A → Prop} {h : xw_A} {a0 : Nat}  (k : xw G m_Model_rollback F L bc bs pr px 61 [some (.ref a0), some (.int 0)] [] h) : xw G m_Model_rollback F L bc bs pr px 59 [some (.ref a0), none] [] h := by
  refine x_iconst (v := 0) d_Model_rollback_59 (by decide) ?_
  refine x_istore_n d_Model_rollback_60 rfl (by decide) rfl ?_
  show xw G m_Model_rollback F L bc bs pr px 61 [some (.ref a0), some (.int 0)] [] h
  exact k
theorem s_Model_rollback_61 {G : xw_G} {F L bc bs : Nat} {pr : Option Value → xw_A → Prop} {px : String → xw_A → Prop} {h : xw_A} {a0 : Nat} {x1 : Int32}  (kt : 48 ≤ x1 → xw G m_Model_rollback F L bc bs pr px 85 [some (.ref a0), none] [] h) (kf : ¬ 48 ≤ x1 → xw G m_Model_rollback F L bc bs pr px 67 [some (.ref a0), some (.int x1)] [] h) : xw G m_Model_rollback F L bc bs pr px 61 [some (.ref a0), some (.int x1)] [] h := by
  refine x_iload_n d_Model_rollback_61 rfl rfl ?_
  refine x_bipush (v := 48) d_Model_rollback_62 (by decide) ?_
  refine x_icmp_ge (tgt := 85) d_Model_rollback_64 (by decide) (fun hc => ?_) (fun hc => ?_)
  · exact x_le (lv' := [some (.ref a0), none]) (xw_le_s (xw_le_n xw_le_e)) (kt hc)
  · exact kf hc
theorem s_Model_rollback_67 {G : xw_G} {F L bc bs : Nat} {pr : Option Value → xw_A → Prop} {px : String → xw_A → Prop} {h : xw_A} {a0 : Nat} {x1 : Int32} {fs_a0 : List Value} {sizes_a0 : Nat} {oldSizes_a0 : Nat} {n_oldSizes_a0 : Nat} {f_oldSizes_a0 : Nat → Int32} {n_sizes_a0 : Nat} {f_sizes_a0 : Nat → Int32} (l_a0 : fs_a0.length = 62) (e_a0 : h a0 = some (.inr (11, fs_a0))) (g_a0_sizes : fs_a0[(8 : Nat)]? = some (.ref sizes_a0)) (g_a0_oldSizes : fs_a0[(22 : Nat)]? = some (.ref oldSizes_a0)) (e_oldSizes_a0 : h oldSizes_a0 = some (.inl (0, n_oldSizes_a0, .inl f_oldSizes_a0))) (i_77 : vp_in x1 n_oldSizes_a0) (e_sizes_a0 : h sizes_a0 = some (.inl (0, n_sizes_a0, .inl f_sizes_a0))) (i_78 : vp_in x1 n_sizes_a0) (k : xw G m_Model_rollback F L bc bs pr px 61 [some (.ref a0), some (.int (x1 + 1))] [] (xw_up h sizes_a0 (.inl (0, n_sizes_a0, .inl (upd f_sizes_a0 (x1).toNatClampNeg (f_oldSizes_a0 x1.toNatClampNeg)))))) : xw G m_Model_rollback F L bc bs pr px 67 [some (.ref a0), some (.int x1)] [] h := by
  refine x_aload_n d_Model_rollback_67 rfl rfl ?_
  refine x_get d_Model_rollback_68 f_Model_32 e_a0 g_a0_sizes ?_
  refine x_iload_n d_Model_rollback_71 rfl rfl ?_
  refine x_aload_n d_Model_rollback_72 rfl rfl ?_
  refine x_get d_Model_rollback_73 f_Model_56 e_a0 g_a0_oldSizes ?_
  refine x_iload_n d_Model_rollback_76 rfl rfl ?_
  refine x_iald d_Model_rollback_77 e_oldSizes_a0 i_77 ?_
  refine x_iast d_Model_rollback_78 e_sizes_a0 i_78 ?_
  refine x_iinc (v := x1 + 1) d_Model_rollback_79 rfl (by rfl) (by decide) rfl ?_
  show xw G m_Model_rollback F L bc bs pr px 82 [some (.ref a0), some (.int (x1 + 1))] [] (xw_up h sizes_a0 (.inl (0, n_sizes_a0, .inl (upd f_sizes_a0 (x1).toNatClampNeg (f_oldSizes_a0 x1.toNatClampNeg)))))
  refine x_goto (tgt := 61) d_Model_rollback_82 (by decide) ?_
  exact k
theorem s_Model_rollback_85 {G : xw_G} {F L bc bs : Nat} {pr : Option Value → xw_A → Prop} {px : String → xw_A → Prop} {h : xw_A} {a0 : Nat}  (k : xw G m_Model_rollback F L bc bs pr px 87 [some (.ref a0), some (.int 0)] [] h) : xw G m_Model_rollback F L bc bs pr px 85 [some (.ref a0), none] [] h := by
  refine x_iconst (v := 0) d_Model_rollback_85 (by decide) ?_
  refine x_istore_n d_Model_rollback_86 rfl (by decide) rfl ?_
  show xw G m_Model_rollback F L bc bs pr px 87 [some (.ref a0), some (.int 0)] [] h
  exact k
theorem s_Model_rollback_87 {G : xw_G} {F L bc bs : Nat} {pr : Option Value → xw_A → Prop} {px : String → xw_A → Prop} {h : xw_A} {a0 : Nat} {x1 : Int32}  (kt : 24 ≤ x1 → xw G m_Model_rollback F L bc bs pr px 111 [some (.ref a0), none] [] h) (kf : ¬ 24 ≤ x1 → xw G m_Model_rollback F L bc bs pr px 93 [some (.ref a0), some (.int x1)] [] h) : xw G m_Model_rollback F L bc bs pr px 87 [some (.ref a0), some (.int x1)] [] h := by
  refine x_iload_n d_Model_rollback_87 rfl rfl ?_
  refine x_bipush (v := 24) d_Model_rollback_88 (by decide) ?_
  refine x_icmp_ge (tgt := 111) d_Model_rollback_90 (by decide) (fun hc => ?_) (fun hc => ?_)
  · exact x_le (lv' := [some (.ref a0), none]) (xw_le_s (xw_le_n xw_le_e)) (kt hc)
  · exact kf hc
theorem s_Model_rollback_93 {G : xw_G} {F L bc bs : Nat} {pr : Option Value → xw_A → Prop} {px : String → xw_A → Prop} {h : xw_A} {a0 : Nat} {x1 : Int32} {fs_a0 : List Value} {live_a0 : Nat} {oldLive_a0 : Nat} {n_oldLive_a0 : Nat} {f_oldLive_a0 : Nat → Int32} {n_live_a0 : Nat} {f_live_a0 : Nat → Int32} (l_a0 : fs_a0.length = 62) (e_a0 : h a0 = some (.inr (11, fs_a0))) (g_a0_live : fs_a0[(14 : Nat)]? = some (.ref live_a0)) (g_a0_oldLive : fs_a0[(24 : Nat)]? = some (.ref oldLive_a0)) (e_oldLive_a0 : h oldLive_a0 = some (.inl (0, n_oldLive_a0, .inl f_oldLive_a0))) (i_103 : vp_in x1 n_oldLive_a0) (e_live_a0 : h live_a0 = some (.inl (0, n_live_a0, .inl f_live_a0))) (i_104 : vp_in x1 n_live_a0) (k : xw G m_Model_rollback F L bc bs pr px 87 [some (.ref a0), some (.int (x1 + 1))] [] (xw_up h live_a0 (.inl (0, n_live_a0, .inl (upd f_live_a0 (x1).toNatClampNeg (f_oldLive_a0 x1.toNatClampNeg)))))) : xw G m_Model_rollback F L bc bs pr px 93 [some (.ref a0), some (.int x1)] [] h := by
  refine x_aload_n d_Model_rollback_93 rfl rfl ?_
  refine x_get d_Model_rollback_94 f_Model_44 e_a0 g_a0_live ?_
  refine x_iload_n d_Model_rollback_97 rfl rfl ?_
  refine x_aload_n d_Model_rollback_98 rfl rfl ?_
  refine x_get d_Model_rollback_99 f_Model_62 e_a0 g_a0_oldLive ?_
  refine x_iload_n d_Model_rollback_102 rfl rfl ?_
  refine x_iald d_Model_rollback_103 e_oldLive_a0 i_103 ?_
  refine x_iast d_Model_rollback_104 e_live_a0 i_104 ?_
  refine x_iinc (v := x1 + 1) d_Model_rollback_105 rfl (by rfl) (by decide) rfl ?_
  show xw G m_Model_rollback F L bc bs pr px 108 [some (.ref a0), some (.int (x1 + 1))] [] (xw_up h live_a0 (.inl (0, n_live_a0, .inl (upd f_live_a0 (x1).toNatClampNeg (f_oldLive_a0 x1.toNatClampNeg)))))
  refine x_goto (tgt := 87) d_Model_rollback_108 (by decide) ?_
  exact k
theorem s_Model_rollback_111 {G : xw_G} {F L bc bs : Nat} {pr : Option Value → xw_A → Prop} {px : String → xw_A → Prop} {h : xw_A} {a0 : Nat}  (k : xw G m_Model_rollback F L bc bs pr px 113 [some (.ref a0), some (.int 0)] [] h) : xw G m_Model_rollback F L bc bs pr px 111 [some (.ref a0), none] [] h := by
  refine x_iconst (v := 0) d_Model_rollback_111 (by decide) ?_
  refine x_istore_n d_Model_rollback_112 rfl (by decide) rfl ?_
  show xw G m_Model_rollback F L bc bs pr px 113 [some (.ref a0), some (.int 0)] [] h
  exact k
theorem s_Model_rollback_113 {G : xw_G} {F L bc bs : Nat} {pr : Option Value → xw_A → Prop} {px : String → xw_A → Prop} {h : xw_A} {a0 : Nat} {x1 : Int32}  (kt : 600 ≤ x1 → xw G m_Model_rollback F L bc bs pr px 162 [some (.ref a0), none] [] h) (kf : ¬ 600 ≤ x1 → xw G m_Model_rollback F L bc bs pr px 120 [some (.ref a0), some (.int x1)] [] h) : xw G m_Model_rollback F L bc bs pr px 113 [some (.ref a0), some (.int x1)] [] h := by
  refine x_iload_n d_Model_rollback_113 rfl rfl ?_
  refine x_sipush (v := 600) d_Model_rollback_114 (by decide) ?_
  refine x_icmp_ge (tgt := 162) d_Model_rollback_117 (by decide) (fun hc => ?_) (fun hc => ?_)
  · exact x_le (lv' := [some (.ref a0), none]) (xw_le_s (xw_le_n xw_le_e)) (kt hc)
  · exact kf hc
theorem s_Model_rollback_120 {G : xw_G} {F L bc bs : Nat} {pr : Option Value → xw_A → Prop} {px : String → xw_A → Prop} {h : xw_A} {a0 : Nat} {x1 : Int32} {fs_a0 : List Value} {lies_a0 : Option Nat} {oldVersions_a0 : Int32} (l_a0 : fs_a0.length = 62) (e_a0 : h a0 = some (.inr (11, fs_a0))) (g_a0_lies : fs_a0[(13 : Nat)]? = some (va_rf lies_a0)) (g_a0_oldVersions : fs_a0[(26 : Nat)]? = some (.int oldVersions_a0)) (kt : oldVersions_a0 ≤ x1 → xw G m_Model_rollback F L bc bs pr px 142 [some (.ref a0), some (.int x1)] [.int x1, va_rf lies_a0] h) (kf : ¬ oldVersions_a0 ≤ x1 → xw G m_Model_rollback F L bc bs pr px 133 [some (.ref a0), some (.int x1)] [.int x1, va_rf lies_a0] h) : xw G m_Model_rollback F L bc bs pr px 120 [some (.ref a0), some (.int x1)] [] h := by
  refine x_aload_n d_Model_rollback_120 rfl rfl ?_
  refine x_get d_Model_rollback_121 f_Model_41 e_a0 g_a0_lies ?_
  refine x_iload_n d_Model_rollback_124 rfl rfl ?_
  refine x_iload_n d_Model_rollback_125 rfl rfl ?_
  refine x_aload_n d_Model_rollback_126 rfl rfl ?_
  refine x_get d_Model_rollback_127 f_Model_203 e_a0 g_a0_oldVersions ?_
  refine x_icmp_ge (tgt := 142) d_Model_rollback_130 (by decide) (fun hc => ?_) (fun hc => ?_)
  · exact kt hc
  · exact kf hc
theorem s_Model_rollback_133 {G : xw_G} {F L bc bs : Nat} {pr : Option Value → xw_A → Prop} {px : String → xw_A → Prop} {h : xw_A} {a0 : Nat} {x1 : Int32} {b1 : Nat} {fs_a0 : List Value} {oldLies_a0 : Nat} {n_oldLies_a0 : Nat} {f_oldLies_a0 : Nat → Int32} (l_a0 : fs_a0.length = 62) (e_a0 : h a0 = some (.inr (11, fs_a0))) (g_a0_oldLies : fs_a0[(23 : Nat)]? = some (.ref oldLies_a0)) (e_oldLies_a0 : h oldLies_a0 = some (.inl (0, n_oldLies_a0, .inl f_oldLies_a0))) (i_138 : vp_in x1 n_oldLies_a0) (k : xw G m_Model_rollback F L bc bs pr px 143 [some (.ref a0), some (.int x1)] [.int (f_oldLies_a0 x1.toNatClampNeg), .int x1, .ref b1] h) : xw G m_Model_rollback F L bc bs pr px 133 [some (.ref a0), some (.int x1)] [.int x1, .ref b1] h := by
  refine x_aload_n d_Model_rollback_133 rfl rfl ?_
  refine x_get d_Model_rollback_134 f_Model_59 e_a0 g_a0_oldLies ?_
  refine x_iload_n d_Model_rollback_137 rfl rfl ?_
  refine x_iald d_Model_rollback_138 e_oldLies_a0 i_138 ?_
  refine x_goto (tgt := 143) d_Model_rollback_139 (by decide) ?_
  exact k
theorem s_Model_rollback_142 {G : xw_G} {F L bc bs : Nat} {pr : Option Value → xw_A → Prop} {px : String → xw_A → Prop} {h : xw_A} {a0 : Nat} {x1 : Int32} {b1 : Nat}  (k : xw G m_Model_rollback F L bc bs pr px 143 [some (.ref a0), some (.int x1)] [.int ((-1)), .int x1, .ref b1] h) : xw G m_Model_rollback F L bc bs pr px 142 [some (.ref a0), some (.int x1)] [.int x1, .ref b1] h := by
  refine x_iconst (v := -1) d_Model_rollback_142 (by decide) ?_
  exact k
theorem s_Model_rollback_143 {G : xw_G} {F L bc bs : Nat} {pr : Option Value → xw_A → Prop} {px : String → xw_A → Prop} {h : xw_A} {a0 : Nat} {x1 : Int32} {y0 : Int32} {b2 : Nat} {n_b2 : Nat} {f_b2 : Nat → Int32} {fs_a0 : List Value} {row_a0 : Nat} {oldRow_a0 : Nat} {n_oldRow_a0 : Nat} {f_oldRow_a0 : Nat → Int32} {n_row_a0 : Nat} {f_row_a0 : Nat → Int32} (e_b2 : h b2 = some (.inl (0, n_b2, .inl f_b2))) (i_143 : vp_in x1 n_b2) (l_a0 : fs_a0.length = 62) (e_a0 : h a0 = some (.inr (11, fs_a0))) (g_a0_row : fs_a0[(17 : Nat)]? = some (.ref row_a0)) (g_a0_oldRow : fs_a0[(25 : Nat)]? = some (.ref oldRow_a0)) (e_oldRow_a0 : h oldRow_a0 = some (.inl (0, n_oldRow_a0, .inl f_oldRow_a0))) (i_154 : vp_in x1 n_oldRow_a0) (n_oldRow_a0_b2 : oldRow_a0 ≠ b2) (e_row_a0 : h row_a0 = some (.inl (0, n_row_a0, .inl f_row_a0))) (i_155 : vp_in x1 n_row_a0) (n_row_a0_b2 : row_a0 ≠ b2) (k : xw G m_Model_rollback F L bc bs pr px 113 [some (.ref a0), some (.int (x1 + 1))] [] (xw_up (xw_up h b2 (.inl (0, n_b2, .inl (upd f_b2 (x1).toNatClampNeg y0)))) row_a0 (.inl (0, n_row_a0, .inl (upd f_row_a0 (x1).toNatClampNeg (f_oldRow_a0 x1.toNatClampNeg)))))) : xw G m_Model_rollback F L bc bs pr px 143 [some (.ref a0), some (.int x1)] [.int y0, .int x1, .ref b2] h := by
  refine x_iast d_Model_rollback_143 e_b2 i_143 ?_
  refine x_aload_n d_Model_rollback_144 rfl rfl ?_
  refine x_get d_Model_rollback_145 f_Model_47 ((xw_up_n _ _ (xw_ne e_a0 e_b2 (by simp))).trans e_a0) g_a0_row ?_
  refine x_iload_n d_Model_rollback_148 rfl rfl ?_
  refine x_aload_n d_Model_rollback_149 rfl rfl ?_
  refine x_get d_Model_rollback_150 f_Model_65 ((xw_up_n _ _ (xw_ne e_a0 e_b2 (by simp))).trans e_a0) g_a0_oldRow ?_
  refine x_iload_n d_Model_rollback_153 rfl rfl ?_
  refine x_iald d_Model_rollback_154 ((xw_up_n _ _ n_oldRow_a0_b2).trans e_oldRow_a0) i_154 ?_
  refine x_iast d_Model_rollback_155 ((xw_up_n _ _ n_row_a0_b2).trans e_row_a0) i_155 ?_
  refine x_iinc (v := x1 + 1) d_Model_rollback_156 rfl (by rfl) (by decide) rfl ?_
  show xw G m_Model_rollback F L bc bs pr px 159 [some (.ref a0), some (.int (x1 + 1))] [] (xw_up (xw_up h b2 (.inl (0, n_b2, .inl (upd f_b2 (x1).toNatClampNeg y0)))) row_a0 (.inl (0, n_row_a0, .inl (upd f_row_a0 (x1).toNatClampNeg (f_oldRow_a0 x1.toNatClampNeg)))))
  refine x_goto (tgt := 113) d_Model_rollback_159 (by decide) ?_
  exact k
theorem s_Model_rollback_162 {G : xw_G} {F L bc bs : Nat} {pr : Option Value → xw_A → Prop} {px : String → xw_A → Prop} {h : xw_A} {a0 : Nat} {fs_a0 : List Value} {oldSegments_a0 : Int32} (l_a0 : fs_a0.length = 62) (e_a0 : h a0 = some (.inr (11, fs_a0))) (g_a0_oldSegments : fs_a0[(27 : Nat)]? = some (.int oldSegments_a0)) (k : xw G m_Model_rollback F L bc bs pr px 171 [some (.ref a0), none] [.ref a0] (xw_up h a0 (.inr (11, (fs_a0.set 19 (.int oldSegments_a0)))))) : xw G m_Model_rollback F L bc bs pr px 162 [some (.ref a0), none] [] h := by
  refine x_aload_n d_Model_rollback_162 rfl rfl ?_
  refine x_aload_n d_Model_rollback_163 rfl rfl ?_
  refine x_get d_Model_rollback_164 f_Model_206 e_a0 g_a0_oldSegments ?_
  refine x_put (ty := .int) d_Model_rollback_167 f_Model_193 fw_Model_19.1 fw_Model_19.2 rfl rfl (by simp [l_a0]) e_a0 ?_
  show xw G m_Model_rollback F L bc bs pr px 170 [some (.ref a0), none] [] (xw_up h a0 (.inr (11, (fs_a0.set 19 (.int oldSegments_a0)))))
  refine x_aload_n d_Model_rollback_170 rfl rfl ?_
  exact k
theorem s_Model_rollback_174 {G : xw_G} {F L bc bs : Nat} {pr : Option Value → xw_A → Prop} {px : String → xw_A → Prop} {h : xw_A} {y0 : Int32}  (kr : pr (some (.int y0)) h) : xw G m_Model_rollback F L bc bs pr px 174 [none, none] [.int y0] h := by
  exact x_iret d_Model_rollback_174 rfl kr
theorem s_Model_rows_0 {G : xw_G} {F L bc bs : Nat} {pr : Option Value → xw_A → Prop} {px : String → xw_A → Prop} {h : xw_A} {a0 : Nat}  (k : xw G m_Model_rows F L bc bs pr px 4 [some (.ref a0), some (.int 0), some (.int 0)] [] h) : xw G m_Model_rows F L bc bs pr px 0 [some (.ref a0), none, none] [] h := by
  refine x_iconst (v := 0) d_Model_rows_0 (by decide) ?_
  refine x_istore_n d_Model_rows_1 rfl (by decide) rfl ?_
  show xw G m_Model_rows F L bc bs pr px 2 [some (.ref a0), some (.int 0), none] [] h
  refine x_iconst (v := 0) d_Model_rows_2 (by decide) ?_
  refine x_istore_n d_Model_rows_3 rfl (by decide) rfl ?_
  show xw G m_Model_rows F L bc bs pr px 4 [some (.ref a0), some (.int 0), some (.int 0)] [] h
  exact k
theorem s_Model_rows_4 {G : xw_G} {F L bc bs : Nat} {pr : Option Value → xw_A → Prop} {px : String → xw_A → Prop} {h : xw_A} {a0 : Nat} {x1 : Int32} {x2 : Int32}  (kt : 24 ≤ x2 → xw G m_Model_rows F L bc bs pr px 28 [none, some (.int x1), none] [] h) (kf : ¬ 24 ≤ x2 → xw G m_Model_rows F L bc bs pr px 10 [some (.ref a0), some (.int x1), some (.int x2)] [] h) : xw G m_Model_rows F L bc bs pr px 4 [some (.ref a0), some (.int x1), some (.int x2)] [] h := by
  refine x_iload_n d_Model_rows_4 rfl rfl ?_
  refine x_bipush (v := 24) d_Model_rows_5 (by decide) ?_
  refine x_icmp_ge (tgt := 28) d_Model_rows_7 (by decide) (fun hc => ?_) (fun hc => ?_)
  · exact x_le (lv' := [none, some (.int x1), none]) (xw_le_n (xw_le_s (xw_le_n xw_le_e))) (kt hc)
  · exact kf hc
theorem s_Model_rows_10 {G : xw_G} {F L bc bs : Nat} {pr : Option Value → xw_A → Prop} {px : String → xw_A → Prop} {h : xw_A} {a0 : Nat} {x1 : Int32} {x2 : Int32} {fs_a0 : List Value} {live_a0 : Nat} {n_live_a0 : Nat} {f_live_a0 : Nat → Int32} (l_a0 : fs_a0.length = 62) (e_a0 : h a0 = some (.inr (11, fs_a0))) (g_a0_live : fs_a0[(14 : Nat)]? = some (.ref live_a0)) (e_live_a0 : h live_a0 = some (.inl (0, n_live_a0, .inl f_live_a0))) (i_15 : vp_in x2 n_live_a0) (kt : (f_live_a0 x2.toNatClampNeg) < 0 → xw G m_Model_rows F L bc bs pr px 22 [some (.ref a0), some (.int x1), some (.int x2)] [] h) (kf : ¬ (f_live_a0 x2.toNatClampNeg) < 0 → xw G m_Model_rows F L bc bs pr px 19 [some (.ref a0), some (.int x1), some (.int x2)] [] h) : xw G m_Model_rows F L bc bs pr px 10 [some (.ref a0), some (.int x1), some (.int x2)] [] h := by
  refine x_aload_n d_Model_rows_10 rfl rfl ?_
  refine x_get d_Model_rows_11 f_Model_44 e_a0 g_a0_live ?_
  refine x_iload_n d_Model_rows_14 rfl rfl ?_
  refine x_iald d_Model_rows_15 e_live_a0 i_15 ?_
  refine x_if_lt (tgt := 22) d_Model_rows_16 (by decide) (fun hc => ?_) (fun hc => ?_)
  · exact kt hc
  · exact kf hc
theorem s_Model_rows_19 {G : xw_G} {F L bc bs : Nat} {pr : Option Value → xw_A → Prop} {px : String → xw_A → Prop} {h : xw_A} {a0 : Nat} {x1 : Int32} {x2 : Int32}  (k : xw G m_Model_rows F L bc bs pr px 22 [some (.ref a0), some (.int (x1 + 1)), some (.int x2)] [] h) : xw G m_Model_rows F L bc bs pr px 19 [some (.ref a0), some (.int x1), some (.int x2)] [] h := by
  refine x_iinc (v := x1 + 1) d_Model_rows_19 rfl (by rfl) (by decide) rfl ?_
  show xw G m_Model_rows F L bc bs pr px 22 [some (.ref a0), some (.int (x1 + 1)), some (.int x2)] [] h
  exact k
theorem s_Model_rows_22 {G : xw_G} {F L bc bs : Nat} {pr : Option Value → xw_A → Prop} {px : String → xw_A → Prop} {h : xw_A} {a0 : Nat} {x1 : Int32} {x2 : Int32}  (k : xw G m_Model_rows F L bc bs pr px 4 [some (.ref a0), some (.int x1), some (.int (x2 + 1))] [] h) : xw G m_Model_rows F L bc bs pr px 22 [some (.ref a0), some (.int x1), some (.int x2)] [] h := by
  refine x_iinc (v := x2 + 1) d_Model_rows_22 rfl (by rfl) (by decide) rfl ?_
  show xw G m_Model_rows F L bc bs pr px 25 [some (.ref a0), some (.int x1), some (.int (x2 + 1))] [] h
  refine x_goto (tgt := 4) d_Model_rows_25 (by decide) ?_
  exact k
theorem s_Model_rows_28 {G : xw_G} {F L bc bs : Nat} {pr : Option Value → xw_A → Prop} {px : String → xw_A → Prop} {h : xw_A} {x1 : Int32}  (kr : pr (some (.int x1)) h) : xw G m_Model_rows F L bc bs pr px 28 [none, some (.int x1), none] [] h := by
  refine x_iload_n d_Model_rows_28 rfl rfl ?_
  exact x_iret d_Model_rows_29 rfl kr
theorem s_Model_ways_0 {G : xw_G} {F L bc bs : Nat} {pr : Option Value → xw_A → Prop} {px : String → xw_A → Prop} {h : xw_A} {a0 : Nat} {x1 : Int32} {x2 : Int32} {fs_a0 : List Value} (l_a0 : fs_a0.length = 62) (e_a0 : h a0 = some (.inr (11, fs_a0))) (k : xw G m_Model_ways F L bc bs pr px 10 [some (.ref a0), some (.int x1), some (.int x2)] [.int 9, .int 1, .int x1, .ref a0] (xw_up h a0 (.inr (11, (fs_a0.set 0 (.int 0)))))) : xw G m_Model_ways F L bc bs pr px 0 [some (.ref a0), some (.int x1), some (.int x2)] [] h := by
  refine x_aload_n d_Model_ways_0 rfl rfl ?_
  refine x_iconst (v := 0) d_Model_ways_1 (by decide) ?_
  refine x_put (ty := .int) d_Model_ways_2 f_Model_130 fw_Model_0.1 fw_Model_0.2 rfl rfl (by simp [l_a0]) e_a0 ?_
  show xw G m_Model_ways F L bc bs pr px 5 [some (.ref a0), some (.int x1), some (.int x2)] [] (xw_up h a0 (.inr (11, (fs_a0.set 0 (.int 0)))))
  refine x_aload_n d_Model_ways_5 rfl rfl ?_
  refine x_iload_n d_Model_ways_6 rfl rfl ?_
  refine x_iconst (v := 1) d_Model_ways_7 (by decide) ?_
  refine x_bipush (v := 9) d_Model_ways_8 (by decide) ?_
  exact k
theorem s_Model_ways_13 {G : xw_G} {F L bc bs : Nat} {pr : Option Value → xw_A → Prop} {px : String → xw_A → Prop} {h : xw_A} {a0 : Nat} {x1 : Int32} {x2 : Int32} {y0 : Int32}  (kt : y0 = 0 → xw G m_Model_ways F L bc bs pr px 27 [some (.ref a0), some (.int x1), some (.int x2)] [.ref a0] h) (kf : ¬ y0 = 0 → xw G m_Model_ways F L bc bs pr px 16 [some (.ref a0), some (.int x1), some (.int x2)] [.ref a0] h) : xw G m_Model_ways F L bc bs pr px 13 [some (.ref a0), some (.int x1), some (.int x2)] [.int y0, .ref a0] h := by
  refine x_if_eq (tgt := 27) d_Model_ways_13 (by decide) (fun hc => ?_) (fun hc => ?_)
  · exact kt hc
  · exact kf hc
theorem s_Model_ways_16 {G : xw_G} {F L bc bs : Nat} {pr : Option Value → xw_A → Prop} {px : String → xw_A → Prop} {h : xw_A} {a0 : Nat} {x1 : Int32} {x2 : Int32}  (k : xw G m_Model_ways F L bc bs pr px 21 [some (.ref a0), some (.int x1), some (.int x2)] [.int 200, .int 0, .int x2, .ref a0] h) : xw G m_Model_ways F L bc bs pr px 16 [some (.ref a0), some (.int x1), some (.int x2)] [.ref a0] h := by
  refine x_iload_n d_Model_ways_16 rfl rfl ?_
  refine x_iconst (v := 0) d_Model_ways_17 (by decide) ?_
  refine x_sipush (v := 200) d_Model_ways_18 (by decide) ?_
  exact k
theorem s_Model_ways_24 {G : xw_G} {F L bc bs : Nat} {pr : Option Value → xw_A → Prop} {px : String → xw_A → Prop} {h : xw_A} {a0 : Nat} {x1 : Int32} {x2 : Int32} {y0 : Int32}  (kt : ¬ y0 = 0 → xw G m_Model_ways F L bc bs pr px 31 [some (.ref a0), some (.int x1), some (.int x2)] [.ref a0] h) (kf : y0 = 0 → xw G m_Model_ways F L bc bs pr px 27 [some (.ref a0), some (.int x1), some (.int x2)] [.ref a0] h) : xw G m_Model_ways F L bc bs pr px 24 [some (.ref a0), some (.int x1), some (.int x2)] [.int y0, .ref a0] h := by
  refine x_if_ne (tgt := 31) d_Model_ways_24 (by decide) (fun hc => ?_) (fun hc => ?_)
  · exact kt hc
  · exact kf hc
theorem s_Model_ways_27 {G : xw_G} {F L bc bs : Nat} {pr : Option Value → xw_A → Prop} {px : String → xw_A → Prop} {h : xw_A} {a0 : Nat} {x1 : Int32} {x2 : Int32}  (k : xw G m_Model_ways F L bc bs pr px 32 [some (.ref a0), some (.int x1), some (.int x2)] [.int 1, .ref a0] h) : xw G m_Model_ways F L bc bs pr px 27 [some (.ref a0), some (.int x1), some (.int x2)] [.ref a0] h := by
  refine x_iconst (v := 1) d_Model_ways_27 (by decide) ?_
  refine x_goto (tgt := 32) d_Model_ways_28 (by decide) ?_
  exact k
theorem s_Model_ways_31 {G : xw_G} {F L bc bs : Nat} {pr : Option Value → xw_A → Prop} {px : String → xw_A → Prop} {h : xw_A} {a0 : Nat} {x1 : Int32} {x2 : Int32}  (k : xw G m_Model_ways F L bc bs pr px 32 [some (.ref a0), some (.int x1), some (.int x2)] [.int 0, .ref a0] h) : xw G m_Model_ways F L bc bs pr px 31 [some (.ref a0), some (.int x1), some (.int x2)] [.ref a0] h := by
  refine x_iconst (v := 0) d_Model_ways_31 (by decide) ?_
  exact k
theorem s_Model_ways_32 {G : xw_G} {F L bc bs : Nat} {pr : Option Value → xw_A → Prop} {px : String → xw_A → Prop} {h : xw_A} {a0 : Nat} {x1 : Int32} {x2 : Int32} {y0 : Int32}  (k : xw G m_Model_ways F L bc bs pr px 33 [some (.ref a0), some (.int x1), some (.int x2)] [.int 1, .int y0, .ref a0] h) : xw G m_Model_ways F L bc bs pr px 32 [some (.ref a0), some (.int x1), some (.int x2)] [.int y0, .ref a0] h := by
  refine x_iconst (v := 1) d_Model_ways_32 (by decide) ?_
  exact k
theorem s_Model_ways_36 {G : xw_G} {F L bc bs : Nat} {pr : Option Value → xw_A → Prop} {px : String → xw_A → Prop} {h : xw_A} {a0 : Nat} {x1 : Int32} {x2 : Int32} {y0 : Int32}  (kt : y0 = 0 → xw G m_Model_ways F L bc bs pr px 40 [some (.ref a0), some (.int x1), some (.int x2)] [] h) (kf : ¬ y0 = 0 → xw G m_Model_ways F L bc bs pr px 39 [none, none, none] [] h) : xw G m_Model_ways F L bc bs pr px 36 [some (.ref a0), some (.int x1), some (.int x2)] [.int y0] h := by
  refine x_if_eq (tgt := 40) d_Model_ways_36 (by decide) (fun hc => ?_) (fun hc => ?_)
  · exact kt hc
  · exact x_le (lv' := [none, none, none]) (xw_le_n (xw_le_n (xw_le_n xw_le_e))) (kf hc)
theorem s_Model_ways_39 {G : xw_G} {F L bc bs : Nat} {pr : Option Value → xw_A → Prop} {px : String → xw_A → Prop} {h : xw_A}   (kr : pr none h) : xw G m_Model_ways F L bc bs pr px 39 [none, none, none] [] h := by
  exact x_vret d_Model_ways_39 rfl kr
theorem s_Model_ways_40 {G : xw_G} {F L bc bs : Nat} {pr : Option Value → xw_A → Prop} {px : String → xw_A → Prop} {h : xw_A} {a0 : Nat} {x1 : Int32} {x2 : Int32} {fs_a0 : List Value} (l_a0 : fs_a0.length = 62) (e_a0 : h a0 = some (.inr (11, fs_a0))) (kr : pr none (xw_up (xw_up h a0 (.inr (11, (fs_a0.set 1 (.int x1))))) a0 (.inr (11, ((fs_a0.set 1 (.int x1)).set 2 (.int x2)))))) : xw G m_Model_ways F L bc bs pr px 40 [some (.ref a0), some (.int x1), some (.int x2)] [] h := by
  refine x_aload_n d_Model_ways_40 rfl rfl ?_
  refine x_iload_n d_Model_ways_41 rfl rfl ?_
  refine x_put (ty := .int) d_Model_ways_42 f_Model_7 fw_Model_1.1 fw_Model_1.2 rfl rfl (by simp [l_a0]) e_a0 ?_
  show xw G m_Model_ways F L bc bs pr px 45 [some (.ref a0), some (.int x1), some (.int x2)] [] (xw_up h a0 (.inr (11, (fs_a0.set 1 (.int x1)))))
  refine x_aload_n d_Model_ways_45 rfl rfl ?_
  refine x_iload_n d_Model_ways_46 rfl rfl ?_
  refine x_put (ty := .int) d_Model_ways_47 f_Model_13 fw_Model_2.1 fw_Model_2.2 rfl rfl (by simp [l_a0]) (xw_up_s _ _ _) ?_
  show xw G m_Model_ways F L bc bs pr px 50 [some (.ref a0), some (.int x1), some (.int x2)] [] (xw_up (xw_up h a0 (.inr (11, (fs_a0.set 1 (.int x1))))) a0 (.inr (11, ((fs_a0.set 1 (.int x1)).set 2 (.int x2)))))
  exact x_vret d_Model_ways_50 rfl kr
theorem s_Model_weight_0 {G : xw_G} {F L bc bs : Nat} {pr : Option Value → xw_A → Prop} {px : String → xw_A → Prop} {h : xw_A} {a0 : Nat} {x1 : Int32} {x2 : Int32} {fs_a0 : List Value} (l_a0 : fs_a0.length = 62) (e_a0 : h a0 = some (.inr (11, fs_a0))) (k : xw G m_Model_weight F L bc bs pr px 9 [some (.ref a0), some (.int x1), some (.int x2), none] [.int 1, .int 0, .int x1, .ref a0] (xw_up h a0 (.inr (11, (fs_a0.set 0 (.int 0)))))) : xw G m_Model_weight F L bc bs pr px 0 [some (.ref a0), some (.int x1), some (.int x2), none] [] h := by
  refine x_aload_n d_Model_weight_0 rfl rfl ?_
  refine x_iconst (v := 0) d_Model_weight_1 (by decide) ?_
  refine x_put (ty := .int) d_Model_weight_2 f_Model_130 fw_Model_0.1 fw_Model_0.2 rfl rfl (by simp [l_a0]) e_a0 ?_
  show xw G m_Model_weight F L bc bs pr px 5 [some (.ref a0), some (.int x1), some (.int x2), none] [] (xw_up h a0 (.inr (11, (fs_a0.set 0 (.int 0)))))
  refine x_aload_n d_Model_weight_5 rfl rfl ?_
  refine x_iload_n d_Model_weight_6 rfl rfl ?_
  refine x_iconst (v := 0) d_Model_weight_7 (by decide) ?_
  refine x_iconst (v := 1) d_Model_weight_8 (by decide) ?_
  exact k
theorem s_Model_weight_12 {G : xw_G} {F L bc bs : Nat} {pr : Option Value → xw_A → Prop} {px : String → xw_A → Prop} {h : xw_A} {a0 : Nat} {x1 : Int32} {x2 : Int32} {y0 : Int32}  (kt : y0 = 0 → xw G m_Model_weight F L bc bs pr px 25 [some (.ref a0), some (.int x1), some (.int x2), none] [.ref a0] h) (kf : ¬ y0 = 0 → xw G m_Model_weight F L bc bs pr px 15 [some (.ref a0), some (.int x1), some (.int x2), none] [.ref a0] h) : xw G m_Model_weight F L bc bs pr px 12 [some (.ref a0), some (.int x1), some (.int x2), none] [.int y0, .ref a0] h := by
  refine x_if_eq (tgt := 25) d_Model_weight_12 (by decide) (fun hc => ?_) (fun hc => ?_)
  · exact kt hc
  · exact kf hc
theorem s_Model_weight_15 {G : xw_G} {F L bc bs : Nat} {pr : Option Value → xw_A → Prop} {px : String → xw_A → Prop} {h : xw_A} {a0 : Nat} {x1 : Int32} {x2 : Int32}  (k : xw G m_Model_weight F L bc bs pr px 19 [some (.ref a0), some (.int x1), some (.int x2), none] [.int 9, .int 0, .int x2, .ref a0] h) : xw G m_Model_weight F L bc bs pr px 15 [some (.ref a0), some (.int x1), some (.int x2), none] [.ref a0] h := by
  refine x_iload_n d_Model_weight_15 rfl rfl ?_
  refine x_iconst (v := 0) d_Model_weight_16 (by decide) ?_
  refine x_bipush (v := 9) d_Model_weight_17 (by decide) ?_
  exact k
theorem s_Model_weight_22 {G : xw_G} {F L bc bs : Nat} {pr : Option Value → xw_A → Prop} {px : String → xw_A → Prop} {h : xw_A} {a0 : Nat} {x1 : Int32} {x2 : Int32} {y0 : Int32}  (kt : ¬ y0 = 0 → xw G m_Model_weight F L bc bs pr px 29 [some (.ref a0), some (.int x1), some (.int x2), none] [.ref a0] h) (kf : y0 = 0 → xw G m_Model_weight F L bc bs pr px 25 [some (.ref a0), some (.int x1), some (.int x2), none] [.ref a0] h) : xw G m_Model_weight F L bc bs pr px 22 [some (.ref a0), some (.int x1), some (.int x2), none] [.int y0, .ref a0] h := by
  refine x_if_ne (tgt := 29) d_Model_weight_22 (by decide) (fun hc => ?_) (fun hc => ?_)
  · exact kt hc
  · exact kf hc
theorem s_Model_weight_25 {G : xw_G} {F L bc bs : Nat} {pr : Option Value → xw_A → Prop} {px : String → xw_A → Prop} {h : xw_A} {a0 : Nat} {x1 : Int32} {x2 : Int32}  (k : xw G m_Model_weight F L bc bs pr px 30 [some (.ref a0), some (.int x1), some (.int x2), none] [.int 1, .ref a0] h) : xw G m_Model_weight F L bc bs pr px 25 [some (.ref a0), some (.int x1), some (.int x2), none] [.ref a0] h := by
  refine x_iconst (v := 1) d_Model_weight_25 (by decide) ?_
  refine x_goto (tgt := 30) d_Model_weight_26 (by decide) ?_
  exact k
theorem s_Model_weight_29 {G : xw_G} {F L bc bs : Nat} {pr : Option Value → xw_A → Prop} {px : String → xw_A → Prop} {h : xw_A} {a0 : Nat} {x1 : Int32} {x2 : Int32}  (k : xw G m_Model_weight F L bc bs pr px 30 [some (.ref a0), some (.int x1), some (.int x2), none] [.int 0, .ref a0] h) : xw G m_Model_weight F L bc bs pr px 29 [some (.ref a0), some (.int x1), some (.int x2), none] [.ref a0] h := by
  refine x_iconst (v := 0) d_Model_weight_29 (by decide) ?_
  exact k
theorem s_Model_weight_30 {G : xw_G} {F L bc bs : Nat} {pr : Option Value → xw_A → Prop} {px : String → xw_A → Prop} {h : xw_A} {a0 : Nat} {x1 : Int32} {x2 : Int32} {y0 : Int32}  (k : xw G m_Model_weight F L bc bs pr px 31 [some (.ref a0), some (.int x1), some (.int x2), none] [.int 1, .int y0, .ref a0] h) : xw G m_Model_weight F L bc bs pr px 30 [some (.ref a0), some (.int x1), some (.int x2), none] [.int y0, .ref a0] h := by
  refine x_iconst (v := 1) d_Model_weight_30 (by decide) ?_
  exact k
theorem s_Model_weight_34 {G : xw_G} {F L bc bs : Nat} {pr : Option Value → xw_A → Prop} {px : String → xw_A → Prop} {h : xw_A} {a0 : Nat} {x1 : Int32} {x2 : Int32} {y0 : Int32}  (kt : y0 = 0 → xw G m_Model_weight F L bc bs pr px 39 [some (.ref a0), some (.int x1), some (.int x2), none] [] h) (kf : ¬ y0 = 0 → xw G m_Model_weight F L bc bs pr px 37 [none, none, none, none] [] h) : xw G m_Model_weight F L bc bs pr px 34 [some (.ref a0), some (.int x1), some (.int x2), none] [.int y0] h := by
  refine x_if_eq (tgt := 39) d_Model_weight_34 (by decide) (fun hc => ?_) (fun hc => ?_)
  · exact kt hc
  · exact x_le (lv' := [none, none, none, none]) (xw_le_n (xw_le_n (xw_le_n (xw_le_n xw_le_e)))) (kf hc)
theorem s_Model_weight_37 {G : xw_G} {F L bc bs : Nat} {pr : Option Value → xw_A → Prop} {px : String → xw_A → Prop} {h : xw_A}   (kr : pr (some (.int 0)) h) : xw G m_Model_weight F L bc bs pr px 37 [none, none, none, none] [] h := by
  refine x_iconst (v := 0) d_Model_weight_37 (by decide) ?_
  exact x_iret d_Model_weight_38 rfl kr
theorem s_Model_weight_39 {G : xw_G} {F L bc bs : Nat} {pr : Option Value → xw_A → Prop} {px : String → xw_A → Prop} {h : xw_A} {a0 : Nat} {x1 : Int32} {x2 : Int32} {fs_a0 : List Value} {weights_a0 : Nat} {n_weights_a0 : Nat} {f_weights_a0 : Nat → Int32} (l_a0 : fs_a0.length = 62) (e_a0 : h a0 = some (.inr (11, fs_a0))) (g_a0_weights : fs_a0[(9 : Nat)]? = some (.ref weights_a0)) (e_weights_a0 : h weights_a0 = some (.inl (0, n_weights_a0, .inl f_weights_a0))) (i_44 : vp_in x1 n_weights_a0) (i_52 : vp_in x1 n_weights_a0) (kr : pr (some (.int (f_weights_a0 x1.toNatClampNeg))) (xw_up h weights_a0 (.inl (0, n_weights_a0, .inl (upd f_weights_a0 (x1).toNatClampNeg x2))))) : xw G m_Model_weight F L bc bs pr px 39 [some (.ref a0), some (.int x1), some (.int x2), none] [] h := by
  refine x_aload_n d_Model_weight_39 rfl rfl ?_
  refine x_get d_Model_weight_40 f_Model_35 e_a0 g_a0_weights ?_
  refine x_iload_n d_Model_weight_43 rfl rfl ?_
  refine x_iald d_Model_weight_44 e_weights_a0 i_44 ?_
  refine x_istore_n d_Model_weight_45 rfl (by decide) rfl ?_
  show xw G m_Model_weight F L bc bs pr px 46 [some (.ref a0), some (.int x1), some (.int x2), some (.int (f_weights_a0 x1.toNatClampNeg))] [] h
  refine x_aload_n d_Model_weight_46 rfl rfl ?_
  refine x_get d_Model_weight_47 f_Model_35 e_a0 g_a0_weights ?_
  refine x_iload_n d_Model_weight_50 rfl rfl ?_
  refine x_iload_n d_Model_weight_51 rfl rfl ?_
  refine x_iast d_Model_weight_52 e_weights_a0 i_52 ?_
  refine x_iload_n d_Model_weight_53 rfl rfl ?_
  exact x_iret d_Model_weight_54 rfl kr
theorem s_Model_ask_0 {G : xw_G} {F L bc bs : Nat} {pr : Option Value → xw_A → Prop} {px : String → xw_A → Prop} {h : xw_A} {a0 : Nat} {fs_a0 : List Value} (l_a0 : fs_a0.length = 62) (e_a0 : h a0 = some (.inr (11, fs_a0))) (k : xw G m_Model_ask F L bc bs pr px 7 [some (.ref a0), some (.int 0), none] [] (xw_up h a0 (.inr (11, (fs_a0.set 0 (.int 0)))))) : xw G m_Model_ask F L bc bs pr px 0 [some (.ref a0), none, none] [] h := by
  refine x_aload_n d_Model_ask_0 rfl rfl ?_
  refine x_iconst (v := 0) d_Model_ask_1 (by decide) ?_
  refine x_put (ty := .int) d_Model_ask_2 f_Model_130 fw_Model_0.1 fw_Model_0.2 rfl rfl (by simp [l_a0]) e_a0 ?_
  show xw G m_Model_ask F L bc bs pr px 5 [some (.ref a0), none, none] [] (xw_up h a0 (.inr (11, (fs_a0.set 0 (.int 0)))))
  refine x_iconst (v := 0) d_Model_ask_5 (by decide) ?_
  refine x_istore_n d_Model_ask_6 rfl (by decide) rfl ?_
  show xw G m_Model_ask F L bc bs pr px 7 [some (.ref a0), some (.int 0), none] [] (xw_up h a0 (.inr (11, (fs_a0.set 0 (.int 0)))))
  exact k
theorem s_Model_ask_7 {G : xw_G} {F L bc bs : Nat} {pr : Option Value → xw_A → Prop} {px : String → xw_A → Prop} {h : xw_A} {a0 : Nat} {x1 : Int32} {fs_a0 : List Value} {drafted_a0 : Int32} (l_a0 : fs_a0.length = 62) (e_a0 : h a0 = some (.inr (11, fs_a0))) (g_a0_drafted : fs_a0[(10 : Nat)]? = some (.int drafted_a0)) (kt : drafted_a0 ≤ x1 → xw G m_Model_ask F L bc bs pr px 33 [some (.ref a0), none, none] [] h) (kf : ¬ drafted_a0 ≤ x1 → xw G m_Model_ask F L bc bs pr px 15 [some (.ref a0), some (.int x1), none] [] h) : xw G m_Model_ask F L bc bs pr px 7 [some (.ref a0), some (.int x1), none] [] h := by
  refine x_iload_n d_Model_ask_7 rfl rfl ?_
  refine x_aload_n d_Model_ask_8 rfl rfl ?_
  refine x_get d_Model_ask_9 f_Model_143 e_a0 g_a0_drafted ?_
  refine x_icmp_ge (tgt := 33) d_Model_ask_12 (by decide) (fun hc => ?_) (fun hc => ?_)
  · exact x_le (lv' := [some (.ref a0), none, none]) (xw_le_s (xw_le_n (xw_le_n xw_le_e))) (kt hc)
  · exact kf hc
theorem s_Model_ask_15 {G : xw_G} {F L bc bs : Nat} {pr : Option Value → xw_A → Prop} {px : String → xw_A → Prop} {h : xw_A} {a0 : Nat} {x1 : Int32} {fs_a0 : List Value} {asked_a0 : Nat} {draft_a0 : Nat} {n_draft_a0 : Nat} {f_draft_a0 : Nat → Int32} {n_asked_a0 : Nat} {f_asked_a0 : Nat → Int32} (l_a0 : fs_a0.length = 62) (e_a0 : h a0 = some (.inr (11, fs_a0))) (g_a0_asked : fs_a0[(4 : Nat)]? = some (.ref asked_a0)) (g_a0_draft : fs_a0[(3 : Nat)]? = some (.ref draft_a0)) (e_draft_a0 : h draft_a0 = some (.inl (0, n_draft_a0, .inl f_draft_a0))) (i_25 : vp_in x1 n_draft_a0) (e_asked_a0 : h asked_a0 = some (.inl (0, n_asked_a0, .inl f_asked_a0))) (i_26 : vp_in x1 n_asked_a0) (k : xw G m_Model_ask F L bc bs pr px 7 [some (.ref a0), some (.int (x1 + 1)), none] [] (xw_up h asked_a0 (.inl (0, n_asked_a0, .inl (upd f_asked_a0 (x1).toNatClampNeg (f_draft_a0 x1.toNatClampNeg)))))) : xw G m_Model_ask F L bc bs pr px 15 [some (.ref a0), some (.int x1), none] [] h := by
  refine x_aload_n d_Model_ask_15 rfl rfl ?_
  refine x_get d_Model_ask_16 f_Model_20 e_a0 g_a0_asked ?_
  refine x_iload_n d_Model_ask_19 rfl rfl ?_
  refine x_aload_n d_Model_ask_20 rfl rfl ?_
  refine x_get d_Model_ask_21 f_Model_16 e_a0 g_a0_draft ?_
  refine x_iload_n d_Model_ask_24 rfl rfl ?_
  refine x_iald d_Model_ask_25 e_draft_a0 i_25 ?_
  refine x_iast d_Model_ask_26 e_asked_a0 i_26 ?_
  refine x_iinc (v := x1 + 1) d_Model_ask_27 rfl (by rfl) (by decide) rfl ?_
  show xw G m_Model_ask F L bc bs pr px 30 [some (.ref a0), some (.int (x1 + 1)), none] [] (xw_up h asked_a0 (.inl (0, n_asked_a0, .inl (upd f_asked_a0 (x1).toNatClampNeg (f_draft_a0 x1.toNatClampNeg)))))
  refine x_goto (tgt := 7) d_Model_ask_30 (by decide) ?_
  exact k
theorem s_Model_ask_33 {G : xw_G} {F L bc bs : Nat} {pr : Option Value → xw_A → Prop} {px : String → xw_A → Prop} {h : xw_A} {a0 : Nat} {fs_a0 : List Value} {drafted_a0 : Int32} (l_a0 : fs_a0.length = 62) (e_a0 : h a0 = some (.inr (11, fs_a0))) (g_a0_drafted : fs_a0[(10 : Nat)]? = some (.int drafted_a0)) (k : xw G m_Model_ask F L bc bs pr px 47 [some (.ref a0), none, none] [.ref a0] (xw_up (xw_up h a0 (.inr (11, (fs_a0.set 11 (.int drafted_a0))))) a0 (.inr (11, ((fs_a0.set 11 (.int drafted_a0)).set 10 (.int 0)))))) : xw G m_Model_ask F L bc bs pr px 33 [some (.ref a0), none, none] [] h := by
  refine x_aload_n d_Model_ask_33 rfl rfl ?_
  refine x_aload_n d_Model_ask_34 rfl rfl ?_
  refine x_get d_Model_ask_35 f_Model_143 e_a0 g_a0_drafted ?_
  refine x_put (ty := .int) d_Model_ask_38 f_Model_212 fw_Model_11.1 fw_Model_11.2 rfl rfl (by simp [l_a0]) e_a0 ?_
  show xw G m_Model_ask F L bc bs pr px 41 [some (.ref a0), none, none] [] (xw_up h a0 (.inr (11, (fs_a0.set 11 (.int drafted_a0)))))
  refine x_aload_n d_Model_ask_41 rfl rfl ?_
  refine x_iconst (v := 0) d_Model_ask_42 (by decide) ?_
  refine x_put (ty := .int) d_Model_ask_43 f_Model_143 fw_Model_10.1 fw_Model_10.2 rfl rfl (by simp [l_a0]) (xw_up_s _ _ _) ?_
  show xw G m_Model_ask F L bc bs pr px 46 [some (.ref a0), none, none] [] (xw_up (xw_up h a0 (.inr (11, (fs_a0.set 11 (.int drafted_a0))))) a0 (.inr (11, ((fs_a0.set 11 (.int drafted_a0)).set 10 (.int 0)))))
  refine x_aload_n d_Model_ask_46 rfl rfl ?_
  exact k
theorem s_Model_ask_50 {G : xw_G} {F L bc bs : Nat} {pr : Option Value → xw_A → Prop} {px : String → xw_A → Prop} {h : xw_A} {a0 : Nat} {fs_a0 : List Value} {bad_a0 : Int32} (l_a0 : fs_a0.length = 62) (e_a0 : h a0 = some (.inr (11, fs_a0))) (g_a0_bad : fs_a0[(33 : Nat)]? = some (.int bad_a0)) (kt : bad_a0 < 0 → xw G m_Model_ask F L bc bs pr px 70 [some (.ref a0), none, none] [.ref a0] (xw_up h a0 (.inr (11, (fs_a0.set 32 (.int bad_a0)))))) (kf : ¬ bad_a0 < 0 → xw G m_Model_ask F L bc bs pr px 66 [some (.ref a0), none, none] [.ref a0] (xw_up h a0 (.inr (11, (fs_a0.set 32 (.int bad_a0)))))) : xw G m_Model_ask F L bc bs pr px 50 [some (.ref a0), none, none] [] h := by
  refine x_aload_n d_Model_ask_50 rfl rfl ?_
  refine x_aload_n d_Model_ask_51 rfl rfl ?_
  refine x_get d_Model_ask_52 f_Model_71 e_a0 g_a0_bad ?_
  refine x_put (ty := .int) d_Model_ask_55 f_Model_68 fw_Model_32.1 fw_Model_32.2 rfl rfl (by simp [l_a0]) e_a0 ?_
  show xw G m_Model_ask F L bc bs pr px 58 [some (.ref a0), none, none] [] (xw_up h a0 (.inr (11, (fs_a0.set 32 (.int bad_a0)))))
  refine x_aload_n d_Model_ask_58 rfl rfl ?_
  refine x_aload_n d_Model_ask_59 rfl rfl ?_
  refine x_get d_Model_ask_60 f_Model_71 (xw_up_s _ _ _) (xw_gn (by decide) g_a0_bad) ?_
  refine x_if_lt (tgt := 70) d_Model_ask_63 (by decide) (fun hc => ?_) (fun hc => ?_)
  · exact kt hc
  · exact kf hc
theorem s_Model_ask_66 {G : xw_G} {F L bc bs : Nat} {pr : Option Value → xw_A → Prop} {px : String → xw_A → Prop} {h : xw_A} {a0 : Nat}  (k : xw G m_Model_ask F L bc bs pr px 71 [some (.ref a0), none, none] [.int 1, .ref a0] h) : xw G m_Model_ask F L bc bs pr px 66 [some (.ref a0), none, none] [.ref a0] h := by
  refine x_iconst (v := 1) d_Model_ask_66 (by decide) ?_
  refine x_goto (tgt := 71) d_Model_ask_67 (by decide) ?_
  exact k
theorem s_Model_ask_70 {G : xw_G} {F L bc bs : Nat} {pr : Option Value → xw_A → Prop} {px : String → xw_A → Prop} {h : xw_A} {a0 : Nat}  (k : xw G m_Model_ask F L bc bs pr px 71 [some (.ref a0), none, none] [.int 0, .ref a0] h) : xw G m_Model_ask F L bc bs pr px 70 [some (.ref a0), none, none] [.ref a0] h := by
  refine x_iconst (v := 0) d_Model_ask_70 (by decide) ?_
  exact k
theorem s_Model_ask_71 {G : xw_G} {F L bc bs : Nat} {pr : Option Value → xw_A → Prop} {px : String → xw_A → Prop} {h : xw_A} {a0 : Nat} {y0 : Int32}  (k : xw G m_Model_ask F L bc bs pr px 72 [some (.ref a0), none, none] [.int 1, .int y0, .ref a0] h) : xw G m_Model_ask F L bc bs pr px 71 [some (.ref a0), none, none] [.int y0, .ref a0] h := by
  refine x_iconst (v := 1) d_Model_ask_71 (by decide) ?_
  exact k
theorem s_Model_ask_75 {G : xw_G} {F L bc bs : Nat} {pr : Option Value → xw_A → Prop} {px : String → xw_A → Prop} {h : xw_A} {a0 : Nat} {y0 : Int32}  (kt : y0 = 0 → xw G m_Model_ask F L bc bs pr px 80 [some (.ref a0), none, none] [] h) (kf : ¬ y0 = 0 → xw G m_Model_ask F L bc bs pr px 78 [none, none, none] [] h) : xw G m_Model_ask F L bc bs pr px 75 [some (.ref a0), none, none] [.int y0] h := by
  refine x_if_eq (tgt := 80) d_Model_ask_75 (by decide) (fun hc => ?_) (fun hc => ?_)
  · exact kt hc
  · exact x_le (lv' := [none, none, none]) (xw_le_n (xw_le_n (xw_le_n xw_le_e))) (kf hc)
theorem s_Model_ask_78 {G : xw_G} {F L bc bs : Nat} {pr : Option Value → xw_A → Prop} {px : String → xw_A → Prop} {h : xw_A}   (kr : pr (some (.int 0)) h) : xw G m_Model_ask F L bc bs pr px 78 [none, none, none] [] h := by
  refine x_iconst (v := 0) d_Model_ask_78 (by decide) ?_
  exact x_iret d_Model_ask_79 rfl kr
theorem s_Model_ask_80 {G : xw_G} {F L bc bs : Nat} {pr : Option Value → xw_A → Prop} {px : String → xw_A → Prop} {h : xw_A} {a0 : Nat} {fs_a0 : List Value} {phrases_a0 : Int32} (l_a0 : fs_a0.length = 62) (e_a0 : h a0 = some (.inr (11, fs_a0))) (g_a0_phrases : fs_a0[(34 : Nat)]? = some (.int phrases_a0)) (k : xw G m_Model_ask F L bc bs pr px 95 [some (.ref a0), some (.int 0), none] [] (xw_up (xw_up h a0 (.inr (11, (fs_a0.set 40 (.int phrases_a0))))) a0 (.inr (11, ((fs_a0.set 40 (.int phrases_a0)).set 56 (.int 0)))))) : xw G m_Model_ask F L bc bs pr px 80 [some (.ref a0), none, none] [] h := by
  refine x_aload_n d_Model_ask_80 rfl rfl ?_
  refine x_aload_n d_Model_ask_81 rfl rfl ?_
  refine x_get d_Model_ask_82 f_Model_247 e_a0 g_a0_phrases ?_
  refine x_put (ty := .int) d_Model_ask_85 f_Model_357 fw_Model_40.1 fw_Model_40.2 rfl rfl (by simp [l_a0]) e_a0 ?_
  show xw G m_Model_ask F L bc bs pr px 88 [some (.ref a0), none, none] [] (xw_up h a0 (.inr (11, (fs_a0.set 40 (.int phrases_a0)))))
  refine x_aload_n d_Model_ask_88 rfl rfl ?_
  refine x_iconst (v := 0) d_Model_ask_89 (by decide) ?_
  refine x_put (ty := .int) d_Model_ask_90 f_Model_360 fw_Model_56.1 fw_Model_56.2 rfl rfl (by simp [l_a0]) (xw_up_s _ _ _) ?_
  show xw G m_Model_ask F L bc bs pr px 93 [some (.ref a0), none, none] [] (xw_up (xw_up h a0 (.inr (11, (fs_a0.set 40 (.int phrases_a0))))) a0 (.inr (11, ((fs_a0.set 40 (.int phrases_a0)).set 56 (.int 0)))))
  refine x_iconst (v := 0) d_Model_ask_93 (by decide) ?_
  refine x_istore_n d_Model_ask_94 rfl (by decide) rfl ?_
  show xw G m_Model_ask F L bc bs pr px 95 [some (.ref a0), some (.int 0), none] [] (xw_up (xw_up h a0 (.inr (11, (fs_a0.set 40 (.int phrases_a0))))) a0 (.inr (11, ((fs_a0.set 40 (.int phrases_a0)).set 56 (.int 0)))))
  exact k
theorem s_Model_ask_95 {G : xw_G} {F L bc bs : Nat} {pr : Option Value → xw_A → Prop} {px : String → xw_A → Prop} {h : xw_A} {a0 : Nat} {x1 : Int32}  (kt : 24 ≤ x1 → xw G m_Model_ask F L bc bs pr px 225 [some (.ref a0), none, none] [] h) (kf : ¬ 24 ≤ x1 → xw G m_Model_ask F L bc bs pr px 101 [some (.ref a0), some (.int x1), none] [] h) : xw G m_Model_ask F L bc bs pr px 95 [some (.ref a0), some (.int x1), none] [] h := by
  refine x_iload_n d_Model_ask_95 rfl rfl ?_
  refine x_bipush (v := 24) d_Model_ask_96 (by decide) ?_
  refine x_icmp_ge (tgt := 225) d_Model_ask_98 (by decide) (fun hc => ?_) (fun hc => ?_)
  · exact x_le (lv' := [some (.ref a0), none, none]) (xw_le_s (xw_le_n (xw_le_n xw_le_e))) (kt hc)
  · exact kf hc
theorem s_Model_ask_101 {G : xw_G} {F L bc bs : Nat} {pr : Option Value → xw_A → Prop} {px : String → xw_A → Prop} {h : xw_A} {a0 : Nat} {x1 : Int32} {fs_a0 : List Value} {live_a0 : Nat} {n_live_a0 : Nat} {f_live_a0 : Nat → Int32} (l_a0 : fs_a0.length = 62) (e_a0 : h a0 = some (.inr (11, fs_a0))) (g_a0_live : fs_a0[(14 : Nat)]? = some (.ref live_a0)) (e_live_a0 : h live_a0 = some (.inl (0, n_live_a0, .inl f_live_a0))) (i_106 : vp_in x1 n_live_a0) (kt : (f_live_a0 x1.toNatClampNeg) < 0 → xw G m_Model_ask F L bc bs pr px 219 [some (.ref a0), some (.int x1), none] [] h) (kf : ¬ (f_live_a0 x1.toNatClampNeg) < 0 → xw G m_Model_ask F L bc bs pr px 110 [some (.ref a0), some (.int x1), none] [] h) : xw G m_Model_ask F L bc bs pr px 101 [some (.ref a0), some (.int x1), none] [] h := by
  refine x_aload_n d_Model_ask_101 rfl rfl ?_
  refine x_get d_Model_ask_102 f_Model_44 e_a0 g_a0_live ?_
  refine x_iload_n d_Model_ask_105 rfl rfl ?_
  refine x_iald d_Model_ask_106 e_live_a0 i_106 ?_
  refine x_if_lt (tgt := 219) d_Model_ask_107 (by decide) (fun hc => ?_) (fun hc => ?_)
  · exact kt hc
  · exact kf hc
theorem s_Model_ask_110 {G : xw_G} {F L bc bs : Nat} {pr : Option Value → xw_A → Prop} {px : String → xw_A → Prop} {h : xw_A} {a0 : Nat} {x1 : Int32}  (k : xw G m_Model_ask F L bc bs pr px 112 [some (.ref a0), some (.int x1), none] [.int x1, .ref a0] h) : xw G m_Model_ask F L bc bs pr px 110 [some (.ref a0), some (.int x1), none] [] h := by
  refine x_aload_n d_Model_ask_110 rfl rfl ?_
  refine x_iload_n d_Model_ask_111 rfl rfl ?_
  exact k
theorem s_Model_ask_115 {G : xw_G} {F L bc bs : Nat} {pr : Option Value → xw_A → Prop} {px : String → xw_A → Prop} {h : xw_A} {a0 : Nat} {x1 : Int32} {y0 : Int32}  (kt : y0 = 0 → xw G m_Model_ask F L bc bs pr px 219 [some (.ref a0), some (.int x1), none] [] h) (kf : ¬ y0 = 0 → xw G m_Model_ask F L bc bs pr px 118 [some (.ref a0), some (.int x1), none] [] h) : xw G m_Model_ask F L bc bs pr px 115 [some (.ref a0), some (.int x1), none] [.int y0] h := by
  refine x_if_eq (tgt := 219) d_Model_ask_115 (by decide) (fun hc => ?_) (fun hc => ?_)
  · exact kt hc
  · exact kf hc
theorem s_Model_ask_118 {G : xw_G} {F L bc bs : Nat} {pr : Option Value → xw_A → Prop} {px : String → xw_A → Prop} {h : xw_A} {a0 : Nat} {x1 : Int32} {fs_a0 : List Value} {answers_a0 : Nat} {found_a0 : Int32} {n_answers_a0 : Nat} {f_answers_a0 : Nat → Int32} {scores_a0 : Option Nat} (l_a0 : fs_a0.length = 62) (e_a0 : h a0 = some (.inr (11, fs_a0))) (g_a0_answers : fs_a0[(58 : Nat)]? = some (.ref answers_a0)) (g_a0_found : fs_a0[(56 : Nat)]? = some (.int found_a0)) (e_answers_a0 : h answers_a0 = some (.inl (0, n_answers_a0, .inl f_answers_a0))) (i_129 : vp_in found_a0 n_answers_a0) (g_a0_scores : fs_a0[(60 : Nat)]? = some (va_rf scores_a0)) (k : xw G m_Model_ask F L bc bs pr px 140 [some (.ref a0), some (.int x1), none] [.int x1, .ref a0, .int found_a0, va_rf scores_a0] (xw_up h answers_a0 (.inl (0, n_answers_a0, .inl (upd f_answers_a0 (found_a0).toNatClampNeg (x1 + 1)))))) : xw G m_Model_ask F L bc bs pr px 118 [some (.ref a0), some (.int x1), none] [] h := by
  refine x_aload_n d_Model_ask_118 rfl rfl ?_
  refine x_get d_Model_ask_119 f_Model_120 e_a0 g_a0_answers ?_
  refine x_aload_n d_Model_ask_122 rfl rfl ?_
  refine x_get d_Model_ask_123 f_Model_360 e_a0 g_a0_found ?_
  refine x_iload_n d_Model_ask_126 rfl rfl ?_
  refine x_iconst (v := 1) d_Model_ask_127 (by decide) ?_
  refine x_iadd d_Model_ask_128 ?_
  refine x_iast d_Model_ask_129 e_answers_a0 i_129 ?_
  refine x_aload_n d_Model_ask_130 rfl rfl ?_
  refine x_get d_Model_ask_131 f_Model_126 ((xw_up_n _ _ (xw_ne e_a0 e_answers_a0 (by simp))).trans e_a0) g_a0_scores ?_
  refine x_aload_n d_Model_ask_134 rfl rfl ?_
  refine x_get d_Model_ask_135 f_Model_360 ((xw_up_n _ _ (xw_ne e_a0 e_answers_a0 (by simp))).trans e_a0) g_a0_found ?_
  refine x_aload_n d_Model_ask_138 rfl rfl ?_
  refine x_iload_n d_Model_ask_139 rfl rfl ?_
  exact k
theorem s_Model_ask_143 {G : xw_G} {F L bc bs : Nat} {pr : Option Value → xw_A → Prop} {px : String → xw_A → Prop} {h : xw_A} {a0 : Nat} {x1 : Int32} {y0 : UInt64} {y1 : Int32} {b2 : Nat} {n_b2 : Nat} {f_b2 : Nat → UInt64} {fs_a0 : List Value} {found_a0 : Int32} (e_b2 : h b2 = some (.inl (3, n_b2, .inr (.inr (.inr (.inl f_b2)))))) (i_143 : vp_in y1 n_b2) (l_a0 : fs_a0.length = 62) (e_a0 : h a0 = some (.inr (11, fs_a0))) (g_a0_found : fs_a0[(56 : Nat)]? = some (.int found_a0)) (k : xw G m_Model_ask F L bc bs pr px 149 [some (.ref a0), some (.int x1), some (.int found_a0)] [] (xw_up h b2 (.inl (3, n_b2, .inr (.inr (.inr (.inl (vf_upd f_b2 (y1).toNatClampNeg y0)))))))) : xw G m_Model_ask F L bc bs pr px 143 [some (.ref a0), some (.int x1), none] [.double y0, .int y1, .ref b2] h := by
  refine x_dast d_Model_ask_143 e_b2 i_143 ?_
  refine x_aload_n d_Model_ask_144 rfl rfl ?_
  refine x_get d_Model_ask_145 f_Model_360 ((xw_up_n _ _ (xw_ne e_a0 e_b2 (by simp))).trans e_a0) g_a0_found ?_
  refine x_istore_n d_Model_ask_148 rfl (by decide) rfl ?_
  show xw G m_Model_ask F L bc bs pr px 149 [some (.ref a0), some (.int x1), some (.int found_a0)] [] (xw_up h b2 (.inl (3, n_b2, .inr (.inr (.inr (.inl (vf_upd f_b2 (y1).toNatClampNeg y0)))))))
  exact k
theorem s_Model_ask_149 {G : xw_G} {F L bc bs : Nat} {pr : Option Value → xw_A → Prop} {px : String → xw_A → Prop} {h : xw_A} {a0 : Nat} {x1 : Int32} {x2 : Int32}  (kt : x2 ≤ 0 → xw G m_Model_ask F L bc bs pr px 199 [some (.ref a0), some (.int x1), some (.int x2)] [] h) (kf : ¬ x2 ≤ 0 → xw G m_Model_ask F L bc bs pr px 153 [some (.ref a0), some (.int x1), some (.int x2)] [] h) : xw G m_Model_ask F L bc bs pr px 149 [some (.ref a0), some (.int x1), some (.int x2)] [] h := by
  refine x_iload_n d_Model_ask_149 rfl rfl ?_
  refine x_if_le (tgt := 199) d_Model_ask_150 (by decide) (fun hc => ?_) (fun hc => ?_)
  · exact kt hc
  · exact kf hc
theorem s_Model_ask_153 {G : xw_G} {F L bc bs : Nat} {pr : Option Value → xw_A → Prop} {px : String → xw_A → Prop} {h : xw_A} {a0 : Nat} {x1 : Int32} {x2 : Int32} {fs_a0 : List Value} {scores_a0 : Nat} {order_a0 : Nat} {n_order_a0 : Nat} {f_order_a0 : Nat → Int32} {n_scores_a0 : Nat} {f_scores_a0 : Nat → UInt64} {found_a0 : Int32} (l_a0 : fs_a0.length = 62) (e_a0 : h a0 = some (.inr (11, fs_a0))) (g_a0_scores : fs_a0[(60 : Nat)]? = some (.ref scores_a0)) (g_a0_order : fs_a0[(59 : Nat)]? = some (.ref order_a0)) (e_order_a0 : h order_a0 = some (.inl (0, n_order_a0, .inl f_order_a0))) (i_164 : vp_in (x2 - 1) n_order_a0) (e_scores_a0 : h scores_a0 = some (.inl (3, n_scores_a0, .inr (.inr (.inr (.inl f_scores_a0)))))) (i_165 : vp_in (f_order_a0 (x2 - 1).toNatClampNeg) n_scores_a0) (g_a0_found : fs_a0[(56 : Nat)]? = some (.int found_a0)) (i_174 : vp_in found_a0 n_scores_a0) (kt : 0 ≤ (Op.cmpValue (FP.dcmp (f_scores_a0 (f_order_a0 (x2 - 1).toNatClampNeg).toNatClampNeg) (f_scores_a0 found_a0.toNatClampNeg)) .g) → xw G m_Model_ask F L bc bs pr px 199 [some (.ref a0), some (.int x1), some (.int x2)] [] h) (kf : ¬ 0 ≤ (Op.cmpValue (FP.dcmp (f_scores_a0 (f_order_a0 (x2 - 1).toNatClampNeg).toNatClampNeg) (f_scores_a0 found_a0.toNatClampNeg)) .g) → xw G m_Model_ask F L bc bs pr px 179 [some (.ref a0), some (.int x1), some (.int x2)] [] h) : xw G m_Model_ask F L bc bs pr px 153 [some (.ref a0), some (.int x1), some (.int x2)] [] h := by
  refine x_aload_n d_Model_ask_153 rfl rfl ?_
  refine x_get d_Model_ask_154 f_Model_126 e_a0 g_a0_scores ?_
  refine x_aload_n d_Model_ask_157 rfl rfl ?_
  refine x_get d_Model_ask_158 f_Model_123 e_a0 g_a0_order ?_
  refine x_iload_n d_Model_ask_161 rfl rfl ?_
  refine x_iconst (v := 1) d_Model_ask_162 (by decide) ?_
  refine x_isub d_Model_ask_163 ?_
  refine x_iald d_Model_ask_164 e_order_a0 i_164 ?_
  refine x_dald d_Model_ask_165 e_scores_a0 i_165 ?_
  refine x_aload_n d_Model_ask_166 rfl rfl ?_
  refine x_get d_Model_ask_167 f_Model_126 e_a0 g_a0_scores ?_
  refine x_aload_n d_Model_ask_170 rfl rfl ?_
  refine x_get d_Model_ask_171 f_Model_360 e_a0 g_a0_found ?_
  refine x_dald d_Model_ask_174 e_scores_a0 i_174 ?_
  refine x_dcmp d_Model_ask_175 ?_
  refine x_if_ge (tgt := 199) d_Model_ask_176 (by decide) (fun hc => ?_) (fun hc => ?_)
  · exact kt hc
  · exact kf hc
theorem s_Model_ask_179 {G : xw_G} {F L bc bs : Nat} {pr : Option Value → xw_A → Prop} {px : String → xw_A → Prop} {h : xw_A} {a0 : Nat} {x1 : Int32} {x2 : Int32} {fs_a0 : List Value} {order_a0 : Nat} {n_order_a0 : Nat} {f_order_a0 : Nat → Int32} (l_a0 : fs_a0.length = 62) (e_a0 : h a0 = some (.inr (11, fs_a0))) (g_a0_order : fs_a0[(59 : Nat)]? = some (.ref order_a0)) (e_order_a0 : h order_a0 = some (.inl (0, n_order_a0, .inl f_order_a0))) (i_191 : vp_in (x2 - 1) n_order_a0) (i_192 : vp_in x2 n_order_a0) (k : xw G m_Model_ask F L bc bs pr px 149 [some (.ref a0), some (.int x1), some (.int (x2 + (-1)))] [] (xw_up h order_a0 (.inl (0, n_order_a0, .inl (upd f_order_a0 (x2).toNatClampNeg (f_order_a0 (x2 - 1).toNatClampNeg)))))) : xw G m_Model_ask F L bc bs pr px 179 [some (.ref a0), some (.int x1), some (.int x2)] [] h := by
  refine x_aload_n d_Model_ask_179 rfl rfl ?_
  refine x_get d_Model_ask_180 f_Model_123 e_a0 g_a0_order ?_
  refine x_iload_n d_Model_ask_183 rfl rfl ?_
  refine x_aload_n d_Model_ask_184 rfl rfl ?_
  refine x_get d_Model_ask_185 f_Model_123 e_a0 g_a0_order ?_
  refine x_iload_n d_Model_ask_188 rfl rfl ?_
  refine x_iconst (v := 1) d_Model_ask_189 (by decide) ?_
  refine x_isub d_Model_ask_190 ?_
  refine x_iald d_Model_ask_191 e_order_a0 i_191 ?_
  refine x_iast d_Model_ask_192 e_order_a0 i_192 ?_
  refine x_iinc (v := x2 + (-1)) d_Model_ask_193 rfl (by rfl) (by decide) rfl ?_
  show xw G m_Model_ask F L bc bs pr px 196 [some (.ref a0), some (.int x1), some (.int (x2 + (-1)))] [] (xw_up h order_a0 (.inl (0, n_order_a0, .inl (upd f_order_a0 (x2).toNatClampNeg (f_order_a0 (x2 - 1).toNatClampNeg)))))
  refine x_goto (tgt := 149) d_Model_ask_196 (by decide) ?_
  exact k
theorem s_Model_ask_199 {G : xw_G} {F L bc bs : Nat} {pr : Option Value → xw_A → Prop} {px : String → xw_A → Prop} {h : xw_A} {a0 : Nat} {x1 : Int32} {x2 : Int32} {fs_a0 : List Value} {order_a0 : Nat} {found_a0 : Int32} {n_order_a0 : Nat} {f_order_a0 : Nat → Int32} (l_a0 : fs_a0.length = 62) (e_a0 : h a0 = some (.inr (11, fs_a0))) (g_a0_order : fs_a0[(59 : Nat)]? = some (.ref order_a0)) (g_a0_found : fs_a0[(56 : Nat)]? = some (.int found_a0)) (e_order_a0 : h order_a0 = some (.inl (0, n_order_a0, .inl f_order_a0))) (i_208 : vp_in x2 n_order_a0) (k : xw G m_Model_ask F L bc bs pr px 219 [some (.ref a0), some (.int x1), none] [] (xw_up (xw_up h order_a0 (.inl (0, n_order_a0, .inl (upd f_order_a0 (x2).toNatClampNeg found_a0)))) a0 (.inr (11, (fs_a0.set 56 (.int (found_a0 + 1))))))) : xw G m_Model_ask F L bc bs pr px 199 [some (.ref a0), some (.int x1), some (.int x2)] [] h := by
  refine x_aload_n d_Model_ask_199 rfl rfl ?_
  refine x_get d_Model_ask_200 f_Model_123 e_a0 g_a0_order ?_
  refine x_iload_n d_Model_ask_203 rfl rfl ?_
  refine x_aload_n d_Model_ask_204 rfl rfl ?_
  refine x_get d_Model_ask_205 f_Model_360 e_a0 g_a0_found ?_
  refine x_iast d_Model_ask_208 e_order_a0 i_208 ?_
  refine x_aload_n d_Model_ask_209 rfl rfl ?_
  refine x_dup d_Model_ask_210 rfl ?_
  refine x_get d_Model_ask_211 f_Model_360 ((xw_up_n _ _ (xw_ne e_a0 e_order_a0 (by simp))).trans e_a0) g_a0_found ?_
  refine x_iconst (v := 1) d_Model_ask_214 (by decide) ?_
  refine x_iadd d_Model_ask_215 ?_
  refine x_put (ty := .int) d_Model_ask_216 f_Model_360 fw_Model_56.1 fw_Model_56.2 rfl rfl (by simp [l_a0]) ((xw_up_n _ _ (xw_ne e_a0 e_order_a0 (by simp))).trans e_a0) ?_
  show xw G m_Model_ask F L bc bs pr px 219 [some (.ref a0), some (.int x1), some (.int x2)] [] (xw_up (xw_up h order_a0 (.inl (0, n_order_a0, .inl (upd f_order_a0 (x2).toNatClampNeg found_a0)))) a0 (.inr (11, (fs_a0.set 56 (.int (found_a0 + 1))))))
  exact x_le (lv' := [some (.ref a0), some (.int x1), none]) (xw_le_s (xw_le_s (xw_le_n xw_le_e))) (k)
theorem s_Model_ask_219 {G : xw_G} {F L bc bs : Nat} {pr : Option Value → xw_A → Prop} {px : String → xw_A → Prop} {h : xw_A} {a0 : Nat} {x1 : Int32}  (k : xw G m_Model_ask F L bc bs pr px 95 [some (.ref a0), some (.int (x1 + 1)), none] [] h) : xw G m_Model_ask F L bc bs pr px 219 [some (.ref a0), some (.int x1), none] [] h := by
  refine x_iinc (v := x1 + 1) d_Model_ask_219 rfl (by rfl) (by decide) rfl ?_
  show xw G m_Model_ask F L bc bs pr px 222 [some (.ref a0), some (.int (x1 + 1)), none] [] h
  refine x_goto (tgt := 95) d_Model_ask_222 (by decide) ?_
  exact k
theorem s_Model_ask_225 {G : xw_G} {F L bc bs : Nat} {pr : Option Value → xw_A → Prop} {px : String → xw_A → Prop} {h : xw_A} {a0 : Nat} {fs_a0 : List Value} {found_a0 : Int32} (l_a0 : fs_a0.length = 62) (e_a0 : h a0 = some (.inr (11, fs_a0))) (g_a0_found : fs_a0[(56 : Nat)]? = some (.int found_a0)) (kr : pr (some (.int found_a0)) h) : xw G m_Model_ask F L bc bs pr px 225 [some (.ref a0), none, none] [] h := by
  refine x_aload_n d_Model_ask_225 rfl rfl ?_
  refine x_get d_Model_ask_226 f_Model_360 e_a0 g_a0_found ?_
  exact x_iret d_Model_ask_229 rfl kr
theorem s_Model_reads_0 {G : xw_G} {F L bc bs : Nat} {pr : Option Value → xw_A → Prop} {px : String → xw_A → Prop} {h : xw_A} {a0 : Nat} {fs_a0 : List Value} (l_a0 : fs_a0.length = 62) (e_a0 : h a0 = some (.inr (11, fs_a0))) (k : xw G m_Model_reads F L bc bs pr px 20 [some (.ref a0)] [] (xw_up (xw_up (xw_up (xw_up h a0 (.inr (11, (fs_a0.set 28 (.int 0))))) a0 (.inr (11, ((fs_a0.set 28 (.int 0)).set 33 (.int ((-1))))))) a0 (.inr (11, (((fs_a0.set 28 (.int 0)).set 33 (.int ((-1)))).set 34 (.int 0))))) a0 (.inr (11, ((((fs_a0.set 28 (.int 0)).set 33 (.int ((-1)))).set 34 (.int 0)).set 35 (.int 0)))))) : xw G m_Model_reads F L bc bs pr px 0 [some (.ref a0)] [] h := by
  refine x_aload_n d_Model_reads_0 rfl rfl ?_
  refine x_iconst (v := 0) d_Model_reads_1 (by decide) ?_
  refine x_put (ty := .int) d_Model_reads_2 f_Model_224 fw_Model_28.1 fw_Model_28.2 rfl rfl (by simp [l_a0]) e_a0 ?_
  show xw G m_Model_reads F L bc bs pr px 5 [some (.ref a0)] [] (xw_up h a0 (.inr (11, (fs_a0.set 28 (.int 0)))))
  refine x_aload_n d_Model_reads_5 rfl rfl ?_
  refine x_iconst (v := -1) d_Model_reads_6 (by decide) ?_
  refine x_put (ty := .int) d_Model_reads_7 f_Model_71 fw_Model_33.1 fw_Model_33.2 rfl rfl (by simp [l_a0]) (xw_up_s _ _ _) ?_
  show xw G m_Model_reads F L bc bs pr px 10 [some (.ref a0)] [] (xw_up (xw_up h a0 (.inr (11, (fs_a0.set 28 (.int 0))))) a0 (.inr (11, ((fs_a0.set 28 (.int 0)).set 33 (.int ((-1)))))))
  refine x_aload_n d_Model_reads_10 rfl rfl ?_
  refine x_iconst (v := 0) d_Model_reads_11 (by decide) ?_
  refine x_put (ty := .int) d_Model_reads_12 f_Model_247 fw_Model_34.1 fw_Model_34.2 rfl rfl (by simp [l_a0]) (xw_up_s _ _ _) ?_
  show xw G m_Model_reads F L bc bs pr px 15 [some (.ref a0)] [] (xw_up (xw_up (xw_up h a0 (.inr (11, (fs_a0.set 28 (.int 0))))) a0 (.inr (11, ((fs_a0.set 28 (.int 0)).set 33 (.int ((-1))))))) a0 (.inr (11, (((fs_a0.set 28 (.int 0)).set 33 (.int ((-1)))).set 34 (.int 0)))))
  refine x_aload_n d_Model_reads_15 rfl rfl ?_
  refine x_iconst (v := 0) d_Model_reads_16 (by decide) ?_
  refine x_put (ty := .int) d_Model_reads_17 f_Model_241 fw_Model_35.1 fw_Model_35.2 rfl rfl (by simp [l_a0]) (xw_up_s _ _ _) ?_
  show xw G m_Model_reads F L bc bs pr px 20 [some (.ref a0)] [] (xw_up (xw_up (xw_up (xw_up h a0 (.inr (11, (fs_a0.set 28 (.int 0))))) a0 (.inr (11, ((fs_a0.set 28 (.int 0)).set 33 (.int ((-1))))))) a0 (.inr (11, (((fs_a0.set 28 (.int 0)).set 33 (.int ((-1)))).set 34 (.int 0))))) a0 (.inr (11, ((((fs_a0.set 28 (.int 0)).set 33 (.int ((-1)))).set 34 (.int 0)).set 35 (.int 0)))))
  exact k
theorem s_Model_reads_20 {G : xw_G} {F L bc bs : Nat} {pr : Option Value → xw_A → Prop} {px : String → xw_A → Prop} {h : xw_A} {a0 : Nat} {fs_a0 : List Value} (l_a0 : fs_a0.length = 62) (e_a0 : h a0 = some (.inr (11, fs_a0))) (k : xw G m_Model_reads F L bc bs pr px 40 [some (.ref a0)] [] (xw_up (xw_up (xw_up (xw_up h a0 (.inr (11, (fs_a0.set 36 (.int 0))))) a0 (.inr (11, ((fs_a0.set 36 (.int 0)).set 37 (.int 0))))) a0 (.inr (11, (((fs_a0.set 36 (.int 0)).set 37 (.int 0)).set 38 (.int 0))))) a0 (.inr (11, ((((fs_a0.set 36 (.int 0)).set 37 (.int 0)).set 38 (.int 0)).set 39 (.int 3)))))) : xw G m_Model_reads F L bc bs pr px 20 [some (.ref a0)] [] h := by
  refine x_aload_n d_Model_reads_20 rfl rfl ?_
  refine x_iconst (v := 0) d_Model_reads_21 (by decide) ?_
  refine x_put (ty := .int) d_Model_reads_22 f_Model_263 fw_Model_36.1 fw_Model_36.2 rfl rfl (by simp [l_a0]) e_a0 ?_
  show xw G m_Model_reads F L bc bs pr px 25 [some (.ref a0)] [] (xw_up h a0 (.inr (11, (fs_a0.set 36 (.int 0)))))
  refine x_aload_n d_Model_reads_25 rfl rfl ?_
  refine x_iconst (v := 0) d_Model_reads_26 (by decide) ?_
  refine x_put (ty := .int) d_Model_reads_27 f_Model_272 fw_Model_37.1 fw_Model_37.2 rfl rfl (by simp [l_a0]) (xw_up_s _ _ _) ?_
  show xw G m_Model_reads F L bc bs pr px 30 [some (.ref a0)] [] (xw_up (xw_up h a0 (.inr (11, (fs_a0.set 36 (.int 0))))) a0 (.inr (11, ((fs_a0.set 36 (.int 0)).set 37 (.int 0)))))
  refine x_aload_n d_Model_reads_30 rfl rfl ?_
  refine x_iconst (v := 0) d_Model_reads_31 (by decide) ?_
  refine x_put (ty := .int) d_Model_reads_32 f_Model_278 fw_Model_38.1 fw_Model_38.2 rfl rfl (by simp [l_a0]) (xw_up_s _ _ _) ?_
  show xw G m_Model_reads F L bc bs pr px 35 [some (.ref a0)] [] (xw_up (xw_up (xw_up h a0 (.inr (11, (fs_a0.set 36 (.int 0))))) a0 (.inr (11, ((fs_a0.set 36 (.int 0)).set 37 (.int 0))))) a0 (.inr (11, (((fs_a0.set 36 (.int 0)).set 37 (.int 0)).set 38 (.int 0)))))
  refine x_aload_n d_Model_reads_35 rfl rfl ?_
  refine x_iconst (v := 3) d_Model_reads_36 (by decide) ?_
  refine x_put (ty := .int) d_Model_reads_37 f_Model_266 fw_Model_39.1 fw_Model_39.2 rfl rfl (by simp [l_a0]) (xw_up_s _ _ _) ?_
  show xw G m_Model_reads F L bc bs pr px 40 [some (.ref a0)] [] (xw_up (xw_up (xw_up (xw_up h a0 (.inr (11, (fs_a0.set 36 (.int 0))))) a0 (.inr (11, ((fs_a0.set 36 (.int 0)).set 37 (.int 0))))) a0 (.inr (11, (((fs_a0.set 36 (.int 0)).set 37 (.int 0)).set 38 (.int 0))))) a0 (.inr (11, ((((fs_a0.set 36 (.int 0)).set 37 (.int 0)).set 38 (.int 0)).set 39 (.int 3)))))
  exact k
theorem s_Model_reads_40 {G : xw_G} {F L bc bs : Nat} {pr : Option Value → xw_A → Prop} {px : String → xw_A → Prop} {h : xw_A} {a0 : Nat} {fs_a0 : List Value} (l_a0 : fs_a0.length = 62) (e_a0 : h a0 = some (.inr (11, fs_a0))) (k : xw G m_Model_reads F L bc bs pr px 46 [some (.ref a0)] [.ref a0] (xw_up h a0 (.inr (11, (fs_a0.set 61 (.int 0)))))) : xw G m_Model_reads F L bc bs pr px 40 [some (.ref a0)] [] h := by
  refine x_aload_n d_Model_reads_40 rfl rfl ?_
  refine x_iconst (v := 0) d_Model_reads_41 (by decide) ?_
  refine x_put (ty := .boolean) d_Model_reads_42 f_Model_297 fw_Model_61.1 fw_Model_61.2 rfl rfl (by simp [l_a0]) e_a0 ?_
  show xw G m_Model_reads F L bc bs pr px 45 [some (.ref a0)] [] (xw_up h a0 (.inr (11, (fs_a0.set 61 (.int 0)))))
  refine x_aload_n d_Model_reads_45 rfl rfl ?_
  exact k
theorem s_Model_reads_49 {G : xw_G} {F L bc bs : Nat} {pr : Option Value → xw_A → Prop} {px : String → xw_A → Prop} {h : xw_A} {a0 : Nat} {fs_a0 : List Value} {bad_a0 : Int32} (l_a0 : fs_a0.length = 62) (e_a0 : h a0 = some (.inr (11, fs_a0))) (g_a0_bad : fs_a0[(33 : Nat)]? = some (.int bad_a0)) (kt : 0 ≤ bad_a0 → xw G m_Model_reads F L bc bs pr px 91 [some (.ref a0)] [] h) (kf : ¬ 0 ≤ bad_a0 → xw G m_Model_reads F L bc bs pr px 56 [some (.ref a0)] [] h) : xw G m_Model_reads F L bc bs pr px 49 [some (.ref a0)] [] h := by
  refine x_aload_n d_Model_reads_49 rfl rfl ?_
  refine x_get d_Model_reads_50 f_Model_71 e_a0 g_a0_bad ?_
  refine x_if_ge (tgt := 91) d_Model_reads_53 (by decide) (fun hc => ?_) (fun hc => ?_)
  · exact kt hc
  · exact kf hc
theorem s_Model_reads_56 {G : xw_G} {F L bc bs : Nat} {pr : Option Value → xw_A → Prop} {px : String → xw_A → Prop} {h : xw_A} {a0 : Nat} {fs_a0 : List Value} {kind_a0 : Int32} (l_a0 : fs_a0.length = 62) (e_a0 : h a0 = some (.inr (11, fs_a0))) (g_a0_kind : fs_a0[(29 : Nat)]? = some (.int kind_a0)) (kt : ¬ kind_a0 = 0 → xw G m_Model_reads F L bc bs pr px 70 [some (.ref a0)] [] h) (kf : kind_a0 = 0 → xw G m_Model_reads F L bc bs pr px 63 [some (.ref a0)] [] h) : xw G m_Model_reads F L bc bs pr px 56 [some (.ref a0)] [] h := by
  refine x_aload_n d_Model_reads_56 rfl rfl ?_
  refine x_get d_Model_reads_57 f_Model_227 e_a0 g_a0_kind ?_
  refine x_if_ne (tgt := 70) d_Model_reads_60 (by decide) (fun hc => ?_) (fun hc => ?_)
  · exact kt hc
  · exact kf hc
theorem s_Model_reads_63 {G : xw_G} {F L bc bs : Nat} {pr : Option Value → xw_A → Prop} {px : String → xw_A → Prop} {h : xw_A} {a0 : Nat} {fs_a0 : List Value} {behind_a0 : Int32} (l_a0 : fs_a0.length = 62) (e_a0 : h a0 = some (.inr (11, fs_a0))) (g_a0_behind : fs_a0[(61 : Nat)]? = some (.int behind_a0)) (kt : ¬ behind_a0 = 0 → xw G m_Model_reads F L bc bs pr px 91 [some (.ref a0)] [] h) (kf : behind_a0 = 0 → xw G m_Model_reads F L bc bs pr px 70 [some (.ref a0)] [] h) : xw G m_Model_reads F L bc bs pr px 63 [some (.ref a0)] [] h := by
  refine x_aload_n d_Model_reads_63 rfl rfl ?_
  refine x_get d_Model_reads_64 f_Model_297 e_a0 g_a0_behind ?_
  refine x_if_ne (tgt := 91) d_Model_reads_67 (by decide) (fun hc => ?_) (fun hc => ?_)
  · exact kt hc
  · exact kf hc
theorem s_Model_reads_70 {G : xw_G} {F L bc bs : Nat} {pr : Option Value → xw_A → Prop} {px : String → xw_A → Prop} {h : xw_A} {a0 : Nat} {fs_a0 : List Value} {behind_a0 : Int32} (l_a0 : fs_a0.length = 62) (e_a0 : h a0 = some (.inr (11, fs_a0))) (g_a0_behind : fs_a0[(61 : Nat)]? = some (.int behind_a0)) (kt : behind_a0 = 0 → xw G m_Model_reads F L bc bs pr px 84 [some (.ref a0)] [] h) (kf : ¬ behind_a0 = 0 → xw G m_Model_reads F L bc bs pr px 77 [some (.ref a0)] [] h) : xw G m_Model_reads F L bc bs pr px 70 [some (.ref a0)] [] h := by
  refine x_aload_n d_Model_reads_70 rfl rfl ?_
  refine x_get d_Model_reads_71 f_Model_297 e_a0 g_a0_behind ?_
  refine x_if_eq (tgt := 84) d_Model_reads_74 (by decide) (fun hc => ?_) (fun hc => ?_)
  · exact kt hc
  · exact kf hc
theorem s_Model_reads_77 {G : xw_G} {F L bc bs : Nat} {pr : Option Value → xw_A → Prop} {px : String → xw_A → Prop} {h : xw_A} {a0 : Nat}  (k : xw G m_Model_reads F L bc bs pr px 78 [some (.ref a0)] [.ref a0] h) : xw G m_Model_reads F L bc bs pr px 77 [some (.ref a0)] [] h := by
  refine x_aload_n d_Model_reads_77 rfl rfl ?_
  exact k
theorem s_Model_reads_81 {G : xw_G} {F L bc bs : Nat} {pr : Option Value → xw_A → Prop} {px : String → xw_A → Prop} {h : xw_A} {a0 : Nat}  (k : xw G m_Model_reads F L bc bs pr px 49 [some (.ref a0)] [] h) : xw G m_Model_reads F L bc bs pr px 81 [some (.ref a0)] [] h := by
  refine x_goto (tgt := 49) d_Model_reads_81 (by decide) ?_
  exact k
theorem s_Model_reads_84 {G : xw_G} {F L bc bs : Nat} {pr : Option Value → xw_A → Prop} {px : String → xw_A → Prop} {h : xw_A} {a0 : Nat}  (k : xw G m_Model_reads F L bc bs pr px 85 [some (.ref a0)] [.ref a0] h) : xw G m_Model_reads F L bc bs pr px 84 [some (.ref a0)] [] h := by
  refine x_aload_n d_Model_reads_84 rfl rfl ?_
  exact k
theorem s_Model_reads_88 {G : xw_G} {F L bc bs : Nat} {pr : Option Value → xw_A → Prop} {px : String → xw_A → Prop} {h : xw_A} {a0 : Nat}  (k : xw G m_Model_reads F L bc bs pr px 49 [some (.ref a0)] [] h) : xw G m_Model_reads F L bc bs pr px 88 [some (.ref a0)] [] h := by
  refine x_goto (tgt := 49) d_Model_reads_88 (by decide) ?_
  exact k
theorem s_Model_reads_91 {G : xw_G} {F L bc bs : Nat} {pr : Option Value → xw_A → Prop} {px : String → xw_A → Prop} {h : xw_A} {a0 : Nat}  (k : xw G m_Model_reads F L bc bs pr px 93 [some (.ref a0)] [.int 1, .ref a0] h) : xw G m_Model_reads F L bc bs pr px 91 [some (.ref a0)] [] h := by
  refine x_aload_n d_Model_reads_91 rfl rfl ?_
  refine x_iconst (v := 1) d_Model_reads_92 (by decide) ?_
  exact k
theorem s_Model_reads_96 {G : xw_G} {F L bc bs : Nat} {pr : Option Value → xw_A → Prop} {px : String → xw_A → Prop} {h : xw_A} {a0 : Nat} {fs_a0 : List Value} {tops_a0 : Int32} (l_a0 : fs_a0.length = 62) (e_a0 : h a0 = some (.inr (11, fs_a0))) (g_a0_tops : fs_a0[(38 : Nat)]? = some (.int tops_a0)) (kt : tops_a0 ≤ 0 → xw G m_Model_reads F L bc bs pr px 108 [some (.ref a0)] [.ref a0] h) (kf : ¬ tops_a0 ≤ 0 → xw G m_Model_reads F L bc bs pr px 104 [some (.ref a0)] [.ref a0] h) : xw G m_Model_reads F L bc bs pr px 96 [some (.ref a0)] [] h := by
  refine x_aload_n d_Model_reads_96 rfl rfl ?_
  refine x_aload_n d_Model_reads_97 rfl rfl ?_
  refine x_get d_Model_reads_98 f_Model_278 e_a0 g_a0_tops ?_
  refine x_if_le (tgt := 108) d_Model_reads_101 (by decide) (fun hc => ?_) (fun hc => ?_)
  · exact kt hc
  · exact kf hc
theorem s_Model_reads_104 {G : xw_G} {F L bc bs : Nat} {pr : Option Value → xw_A → Prop} {px : String → xw_A → Prop} {h : xw_A} {a0 : Nat}  (k : xw G m_Model_reads F L bc bs pr px 109 [some (.ref a0)] [.int 1, .ref a0] h) : xw G m_Model_reads F L bc bs pr px 104 [some (.ref a0)] [.ref a0] h := by
  refine x_iconst (v := 1) d_Model_reads_104 (by decide) ?_
  refine x_goto (tgt := 109) d_Model_reads_105 (by decide) ?_
  exact k
theorem s_Model_reads_108 {G : xw_G} {F L bc bs : Nat} {pr : Option Value → xw_A → Prop} {px : String → xw_A → Prop} {h : xw_A} {a0 : Nat}  (k : xw G m_Model_reads F L bc bs pr px 109 [some (.ref a0)] [.int 0, .ref a0] h) : xw G m_Model_reads F L bc bs pr px 108 [some (.ref a0)] [.ref a0] h := by
  refine x_iconst (v := 0) d_Model_reads_108 (by decide) ?_
  exact k
theorem s_Model_reads_109 {G : xw_G} {F L bc bs : Nat} {pr : Option Value → xw_A → Prop} {px : String → xw_A → Prop} {h : xw_A} {a0 : Nat} {y0 : Int32} {fs_a0 : List Value} {askedSize_a0 : Int32} (l_a0 : fs_a0.length = 62) (e_a0 : h a0 = some (.inr (11, fs_a0))) (g_a0_askedSize : fs_a0[(11 : Nat)]? = some (.int askedSize_a0)) (k : xw G m_Model_reads F L bc bs pr px 113 [some (.ref a0)] [.int askedSize_a0, .int y0, .ref a0] h) : xw G m_Model_reads F L bc bs pr px 109 [some (.ref a0)] [.int y0, .ref a0] h := by
  refine x_aload_n d_Model_reads_109 rfl rfl ?_
  refine x_get d_Model_reads_110 f_Model_212 e_a0 g_a0_askedSize ?_
  exact k
theorem s_Model_reads_116 {G : xw_G} {F L bc bs : Nat} {pr : Option Value → xw_A → Prop} {px : String → xw_A → Prop} {h : xw_A}   (kr : pr none h) : xw G m_Model_reads F L bc bs pr px 116 [none] [] h := by
  exact x_vret d_Model_reads_116 rfl kr
theorem s_Model_part_0 {G : xw_G} {F L bc bs : Nat} {pr : Option Value → xw_A → Prop} {px : String → xw_A → Prop} {h : xw_A} {a0 : Nat} {fs_a0 : List Value} {at_a0 : Int32} (l_a0 : fs_a0.length = 62) (e_a0 : h a0 = some (.inr (11, fs_a0))) (g_a0_at : fs_a0[(28 : Nat)]? = some (.int at_a0)) (k : xw G m_Model_part F L bc bs pr px 5 [some (.ref a0), none] [.int at_a0, .ref a0] h) : xw G m_Model_part F L bc bs pr px 0 [some (.ref a0), none] [] h := by
  refine x_aload_n d_Model_part_0 rfl rfl ?_
  refine x_aload_n d_Model_part_1 rfl rfl ?_
  refine x_get d_Model_part_2 f_Model_224 e_a0 g_a0_at ?_
  exact k
theorem s_Model_part_8 {G : xw_G} {F L bc bs : Nat} {pr : Option Value → xw_A → Prop} {px : String → xw_A → Prop} {h : xw_A} {a0 : Nat} {y0 : Int32}  (kt : ¬ y0 = 32 → xw G m_Model_part F L bc bs pr px 26 [some (.ref a0), none] [] h) (kf : y0 = 32 → xw G m_Model_part F L bc bs pr px 13 [some (.ref a0), none] [] h) : xw G m_Model_part F L bc bs pr px 8 [some (.ref a0), none] [.int y0] h := by
  refine x_bipush (v := 32) d_Model_part_8 (by decide) ?_
  refine x_icmp_ne (tgt := 26) d_Model_part_10 (by decide) (fun hc => ?_) (fun hc => ?_)
  · exact kt hc
  · exact kf hc
theorem s_Model_part_13 {G : xw_G} {F L bc bs : Nat} {pr : Option Value → xw_A → Prop} {px : String → xw_A → Prop} {h : xw_A} {a0 : Nat} {fs_a0 : List Value} {at_a0 : Int32} (l_a0 : fs_a0.length = 62) (e_a0 : h a0 = some (.inr (11, fs_a0))) (g_a0_at : fs_a0[(28 : Nat)]? = some (.int at_a0)) (k : xw G m_Model_part F L bc bs pr px 0 [some (.ref a0), none] [] (xw_up h a0 (.inr (11, (fs_a0.set 28 (.int (at_a0 + 1))))))) : xw G m_Model_part F L bc bs pr px 13 [some (.ref a0), none] [] h := by
  refine x_aload_n d_Model_part_13 rfl rfl ?_
  refine x_dup d_Model_part_14 rfl ?_
  refine x_get d_Model_part_15 f_Model_224 e_a0 g_a0_at ?_
  refine x_iconst (v := 1) d_Model_part_18 (by decide) ?_
  refine x_iadd d_Model_part_19 ?_
  refine x_put (ty := .int) d_Model_part_20 f_Model_224 fw_Model_28.1 fw_Model_28.2 rfl rfl (by simp [l_a0]) e_a0 ?_
  show xw G m_Model_part F L bc bs pr px 23 [some (.ref a0), none] [] (xw_up h a0 (.inr (11, (fs_a0.set 28 (.int (at_a0 + 1))))))
  refine x_goto (tgt := 0) d_Model_part_23 (by decide) ?_
  exact k
theorem s_Model_part_26 {G : xw_G} {F L bc bs : Nat} {pr : Option Value → xw_A → Prop} {px : String → xw_A → Prop} {h : xw_A} {a0 : Nat} {fs_a0 : List Value} {at_a0 : Int32} (l_a0 : fs_a0.length = 62) (e_a0 : h a0 = some (.inr (11, fs_a0))) (g_a0_at : fs_a0[(28 : Nat)]? = some (.int at_a0)) (k : xw G m_Model_part F L bc bs pr px 49 [some (.ref a0), none] [.int at_a0, .ref a0] (xw_up (xw_up h a0 (.inr (11, (fs_a0.set 30 (.int at_a0))))) a0 (.inr (11, ((fs_a0.set 30 (.int at_a0)).set 31 (.int (at_a0 + 1))))))) : xw G m_Model_part F L bc bs pr px 26 [some (.ref a0), none] [] h := by
  refine x_aload_n d_Model_part_26 rfl rfl ?_
  refine x_aload_n d_Model_part_27 rfl rfl ?_
  refine x_get d_Model_part_28 f_Model_224 e_a0 g_a0_at ?_
  refine x_put (ty := .int) d_Model_part_31 f_Model_218 fw_Model_30.1 fw_Model_30.2 rfl rfl (by simp [l_a0]) e_a0 ?_
  show xw G m_Model_part F L bc bs pr px 34 [some (.ref a0), none] [] (xw_up h a0 (.inr (11, (fs_a0.set 30 (.int at_a0)))))
  refine x_aload_n d_Model_part_34 rfl rfl ?_
  refine x_aload_n d_Model_part_35 rfl rfl ?_
  refine x_get d_Model_part_36 f_Model_224 (xw_up_s _ _ _) (xw_gn (by decide) g_a0_at) ?_
  refine x_iconst (v := 1) d_Model_part_39 (by decide) ?_
  refine x_iadd d_Model_part_40 ?_
  refine x_put (ty := .int) d_Model_part_41 f_Model_215 fw_Model_31.1 fw_Model_31.2 rfl rfl (by simp [l_a0]) (xw_up_s _ _ _) ?_
  show xw G m_Model_part F L bc bs pr px 44 [some (.ref a0), none] [] (xw_up (xw_up h a0 (.inr (11, (fs_a0.set 30 (.int at_a0))))) a0 (.inr (11, ((fs_a0.set 30 (.int at_a0)).set 31 (.int (at_a0 + 1))))))
  refine x_aload_n d_Model_part_44 rfl rfl ?_
  refine x_aload_n d_Model_part_45 rfl rfl ?_
  refine x_get d_Model_part_46 f_Model_224 (xw_up_s _ _ _) (xw_gn (by decide) (xw_gn (by decide) g_a0_at)) ?_
  exact k
theorem s_Model_part_52 {G : xw_G} {F L bc bs : Nat} {pr : Option Value → xw_A → Prop} {px : String → xw_A → Prop} {h : xw_A} {a0 : Nat} {y0 : Int32} {fs_a0 : List Value} {at_a0 : Int32} {askedSize_a0 : Int32} (l_a0 : fs_a0.length = 62) (e_a0 : h a0 = some (.inr (11, fs_a0))) (g_a0_at : fs_a0[(28 : Nat)]? = some (.int at_a0)) (g_a0_askedSize : fs_a0[(11 : Nat)]? = some (.int askedSize_a0)) (kt : at_a0 < askedSize_a0 → xw G m_Model_part F L bc bs pr px 80 [some (.ref a0), some (.int y0)] [] h) (kf : ¬ at_a0 < askedSize_a0 → xw G m_Model_part F L bc bs pr px 64 [some (.ref a0), none] [] h) : xw G m_Model_part F L bc bs pr px 52 [some (.ref a0), none] [.int y0] h := by
  refine x_istore_n d_Model_part_52 rfl (by decide) rfl ?_
  show xw G m_Model_part F L bc bs pr px 53 [some (.ref a0), some (.int y0)] [] h
  refine x_aload_n d_Model_part_53 rfl rfl ?_
  refine x_get d_Model_part_54 f_Model_224 e_a0 g_a0_at ?_
  refine x_aload_n d_Model_part_57 rfl rfl ?_
  refine x_get d_Model_part_58 f_Model_212 e_a0 g_a0_askedSize ?_
  refine x_icmp_lt (tgt := 80) d_Model_part_61 (by decide) (fun hc => ?_) (fun hc => ?_)
  · exact kt hc
  · exact x_le (lv' := [some (.ref a0), none]) (xw_le_s (xw_le_n xw_le_e)) (kf hc)
theorem s_Model_part_64 {G : xw_G} {F L bc bs : Nat} {pr : Option Value → xw_A → Prop} {px : String → xw_A → Prop} {h : xw_A} {a0 : Nat} {fs_a0 : List Value} {at_a0 : Int32} (l_a0 : fs_a0.length = 62) (e_a0 : h a0 = some (.inr (11, fs_a0))) (g_a0_at : fs_a0[(28 : Nat)]? = some (.int at_a0)) (k : xw G m_Model_part F L bc bs pr px 366 [none, none] [] (xw_up (xw_up h a0 (.inr (11, (fs_a0.set 29 (.int 0))))) a0 (.inr (11, ((fs_a0.set 29 (.int 0)).set 31 (.int at_a0)))))) : xw G m_Model_part F L bc bs pr px 64 [some (.ref a0), none] [] h := by
  refine x_aload_n d_Model_part_64 rfl rfl ?_
  refine x_iconst (v := 0) d_Model_part_65 (by decide) ?_
  refine x_put (ty := .int) d_Model_part_66 f_Model_227 fw_Model_29.1 fw_Model_29.2 rfl rfl (by simp [l_a0]) e_a0 ?_
  show xw G m_Model_part F L bc bs pr px 69 [some (.ref a0), none] [] (xw_up h a0 (.inr (11, (fs_a0.set 29 (.int 0)))))
  refine x_aload_n d_Model_part_69 rfl rfl ?_
  refine x_aload_n d_Model_part_70 rfl rfl ?_
  refine x_get d_Model_part_71 f_Model_224 (xw_up_s _ _ _) (xw_gn (by decide) g_a0_at) ?_
  refine x_put (ty := .int) d_Model_part_74 f_Model_215 fw_Model_31.1 fw_Model_31.2 rfl rfl (by simp [l_a0]) (xw_up_s _ _ _) ?_
  show xw G m_Model_part F L bc bs pr px 77 [some (.ref a0), none] [] (xw_up (xw_up h a0 (.inr (11, (fs_a0.set 29 (.int 0))))) a0 (.inr (11, ((fs_a0.set 29 (.int 0)).set 31 (.int at_a0)))))
  refine x_goto (tgt := 366) d_Model_part_77 (by decide) ?_
  exact x_le (lv' := [none, none]) (xw_le_n (xw_le_n xw_le_e)) (k)
theorem s_Model_part_80 {G : xw_G} {F L bc bs : Nat} {pr : Option Value → xw_A → Prop} {px : String → xw_A → Prop} {h : xw_A} {a0 : Nat} {x1 : Int32}  (k : xw G m_Model_part F L bc bs pr px 81 [some (.ref a0), some (.int x1)] [.int x1] h) : xw G m_Model_part F L bc bs pr px 80 [some (.ref a0), some (.int x1)] [] h := by
  refine x_iload_n d_Model_part_80 rfl rfl ?_
  exact k
theorem s_Model_part_84 {G : xw_G} {F L bc bs : Nat} {pr : Option Value → xw_A → Prop} {px : String → xw_A → Prop} {h : xw_A} {a0 : Nat} {x1 : Int32} {y0 : Int32}  (kt : y0 = 0 → xw G m_Model_part F L bc bs pr px 198 [some (.ref a0), some (.int x1)] [] h) (kf : ¬ y0 = 0 → xw G m_Model_part F L bc bs pr px 87 [some (.ref a0), none] [] h) : xw G m_Model_part F L bc bs pr px 84 [some (.ref a0), some (.int x1)] [.int y0] h := by
  refine x_if_eq (tgt := 198) d_Model_part_84 (by decide) (fun hc => ?_) (fun hc => ?_)
  · exact kt hc
  · exact x_le (lv' := [some (.ref a0), none]) (xw_le_s (xw_le_n xw_le_e)) (kf hc)
theorem s_Model_part_87 {G : xw_G} {F L bc bs : Nat} {pr : Option Value → xw_A → Prop} {px : String → xw_A → Prop} {h : xw_A} {a0 : Nat} {fs_a0 : List Value} {to_a0 : Int32} (l_a0 : fs_a0.length = 62) (e_a0 : h a0 = some (.inr (11, fs_a0))) (g_a0_to : fs_a0[(31 : Nat)]? = some (.int to_a0)) (k : xw G m_Model_part F L bc bs pr px 92 [some (.ref a0), none] [.int to_a0, .ref a0] h) : xw G m_Model_part F L bc bs pr px 87 [some (.ref a0), none] [] h := by
  refine x_aload_n d_Model_part_87 rfl rfl ?_
  refine x_aload_n d_Model_part_88 rfl rfl ?_
  refine x_get d_Model_part_89 f_Model_215 e_a0 g_a0_to ?_
  exact k
theorem s_Model_part_98 {G : xw_G} {F L bc bs : Nat} {pr : Option Value → xw_A → Prop} {px : String → xw_A → Prop} {h : xw_A} {a0 : Nat} {y0 : Int32}  (kt : y0 = 0 → xw G m_Model_part F L bc bs pr px 114 [some (.ref a0), none] [] h) (kf : ¬ y0 = 0 → xw G m_Model_part F L bc bs pr px 101 [some (.ref a0), none] [] h) : xw G m_Model_part F L bc bs pr px 98 [some (.ref a0), none] [.int y0] h := by
  refine x_if_eq (tgt := 114) d_Model_part_98 (by decide) (fun hc => ?_) (fun hc => ?_)
  · exact kt hc
  · exact kf hc
theorem s_Model_part_101 {G : xw_G} {F L bc bs : Nat} {pr : Option Value → xw_A → Prop} {px : String → xw_A → Prop} {h : xw_A} {a0 : Nat} {fs_a0 : List Value} {to_a0 : Int32} (l_a0 : fs_a0.length = 62) (e_a0 : h a0 = some (.inr (11, fs_a0))) (g_a0_to : fs_a0[(31 : Nat)]? = some (.int to_a0)) (k : xw G m_Model_part F L bc bs pr px 87 [some (.ref a0), none] [] (xw_up h a0 (.inr (11, (fs_a0.set 31 (.int (to_a0 + 1))))))) : xw G m_Model_part F L bc bs pr px 101 [some (.ref a0), none] [] h := by
  refine x_aload_n d_Model_part_101 rfl rfl ?_
  refine x_dup d_Model_part_102 rfl ?_
  refine x_get d_Model_part_103 f_Model_215 e_a0 g_a0_to ?_
  refine x_iconst (v := 1) d_Model_part_106 (by decide) ?_
  refine x_iadd d_Model_part_107 ?_
  refine x_put (ty := .int) d_Model_part_108 f_Model_215 fw_Model_31.1 fw_Model_31.2 rfl rfl (by simp [l_a0]) e_a0 ?_
  show xw G m_Model_part F L bc bs pr px 111 [some (.ref a0), none] [] (xw_up h a0 (.inr (11, (fs_a0.set 31 (.int (to_a0 + 1))))))
  refine x_goto (tgt := 87) d_Model_part_111 (by decide) ?_
  exact k
theorem s_Model_part_114 {G : xw_G} {F L bc bs : Nat} {pr : Option Value → xw_A → Prop} {px : String → xw_A → Prop} {h : xw_A} {a0 : Nat}  (k : xw G m_Model_part F L bc bs pr px 123 [some (.ref a0), none] [.int 0, .int 68, .int 78, .int 65, .ref a0, .ref a0] h) : xw G m_Model_part F L bc bs pr px 114 [some (.ref a0), none] [] h := by
  refine x_aload_n d_Model_part_114 rfl rfl ?_
  refine x_aload_n d_Model_part_115 rfl rfl ?_
  refine x_bipush (v := 65) d_Model_part_116 (by decide) ?_
  refine x_bipush (v := 78) d_Model_part_118 (by decide) ?_
  refine x_bipush (v := 68) d_Model_part_120 (by decide) ?_
  refine x_iconst (v := 0) d_Model_part_122 (by decide) ?_
  exact k
theorem s_Model_part_126 {G : xw_G} {F L bc bs : Nat} {pr : Option Value → xw_A → Prop} {px : String → xw_A → Prop} {h : xw_A} {a0 : Nat} {y0 : Int32}  (kt : y0 = 0 → xw G m_Model_part F L bc bs pr px 134 [some (.ref a0), none] [.ref a0] h) (kf : ¬ y0 = 0 → xw G m_Model_part F L bc bs pr px 129 [none, none] [.ref a0] h) : xw G m_Model_part F L bc bs pr px 126 [some (.ref a0), none] [.int y0, .ref a0] h := by
  refine x_if_eq (tgt := 134) d_Model_part_126 (by decide) (fun hc => ?_) (fun hc => ?_)
  · exact kt hc
  · exact x_le (lv' := [none, none]) (xw_le_n (xw_le_n xw_le_e)) (kf hc)
theorem s_Model_part_129 {G : xw_G} {F L bc bs : Nat} {pr : Option Value → xw_A → Prop} {px : String → xw_A → Prop} {h : xw_A} {b0 : Nat}  (k : xw G m_Model_part F L bc bs pr px 192 [none, none] [.int 11, .ref b0] h) : xw G m_Model_part F L bc bs pr px 129 [none, none] [.ref b0] h := by
  refine x_bipush (v := 11) d_Model_part_129 (by decide) ?_
  refine x_goto (tgt := 192) d_Model_part_131 (by decide) ?_
  exact k
theorem s_Model_part_134 {G : xw_G} {F L bc bs : Nat} {pr : Option Value → xw_A → Prop} {px : String → xw_A → Prop} {h : xw_A} {a0 : Nat}  (k : xw G m_Model_part F L bc bs pr px 141 [some (.ref a0), none] [.int 0, .int 0, .int 82, .int 79, .ref a0, .ref a0] h) : xw G m_Model_part F L bc bs pr px 134 [some (.ref a0), none] [.ref a0] h := by
  refine x_aload_n d_Model_part_134 rfl rfl ?_
  refine x_bipush (v := 79) d_Model_part_135 (by decide) ?_
  refine x_bipush (v := 82) d_Model_part_137 (by decide) ?_
  refine x_iconst (v := 0) d_Model_part_139 (by decide) ?_
  refine x_iconst (v := 0) d_Model_part_140 (by decide) ?_
  exact k
theorem s_Model_part_144 {G : xw_G} {F L bc bs : Nat} {pr : Option Value → xw_A → Prop} {px : String → xw_A → Prop} {h : xw_A} {a0 : Nat} {y0 : Int32}  (kt : y0 = 0 → xw G m_Model_part F L bc bs pr px 152 [some (.ref a0), none] [.ref a0] h) (kf : ¬ y0 = 0 → xw G m_Model_part F L bc bs pr px 147 [none, none] [.ref a0] h) : xw G m_Model_part F L bc bs pr px 144 [some (.ref a0), none] [.int y0, .ref a0] h := by
  refine x_if_eq (tgt := 152) d_Model_part_144 (by decide) (fun hc => ?_) (fun hc => ?_)
  · exact kt hc
  · exact x_le (lv' := [none, none]) (xw_le_n (xw_le_n xw_le_e)) (kf hc)
theorem s_Model_part_147 {G : xw_G} {F L bc bs : Nat} {pr : Option Value → xw_A → Prop} {px : String → xw_A → Prop} {h : xw_A} {b0 : Nat}  (k : xw G m_Model_part F L bc bs pr px 192 [none, none] [.int 12, .ref b0] h) : xw G m_Model_part F L bc bs pr px 147 [none, none] [.ref b0] h := by
  refine x_bipush (v := 12) d_Model_part_147 (by decide) ?_
  refine x_goto (tgt := 192) d_Model_part_149 (by decide) ?_
  exact k
theorem s_Model_part_152 {G : xw_G} {F L bc bs : Nat} {pr : Option Value → xw_A → Prop} {px : String → xw_A → Prop} {h : xw_A} {a0 : Nat}  (k : xw G m_Model_part F L bc bs pr px 160 [some (.ref a0), none] [.int 0, .int 84, .int 79, .int 78, .ref a0, .ref a0] h) : xw G m_Model_part F L bc bs pr px 152 [some (.ref a0), none] [.ref a0] h := by
  refine x_aload_n d_Model_part_152 rfl rfl ?_
  refine x_bipush (v := 78) d_Model_part_153 (by decide) ?_
  refine x_bipush (v := 79) d_Model_part_155 (by decide) ?_
  refine x_bipush (v := 84) d_Model_part_157 (by decide) ?_
  refine x_iconst (v := 0) d_Model_part_159 (by decide) ?_
  exact k
theorem s_Model_part_163 {G : xw_G} {F L bc bs : Nat} {pr : Option Value → xw_A → Prop} {px : String → xw_A → Prop} {h : xw_A} {a0 : Nat} {y0 : Int32}  (kt : y0 = 0 → xw G m_Model_part F L bc bs pr px 171 [some (.ref a0), none] [.ref a0] h) (kf : ¬ y0 = 0 → xw G m_Model_part F L bc bs pr px 166 [none, none] [.ref a0] h) : xw G m_Model_part F L bc bs pr px 163 [some (.ref a0), none] [.int y0, .ref a0] h := by
  refine x_if_eq (tgt := 171) d_Model_part_163 (by decide) (fun hc => ?_) (fun hc => ?_)
  · exact kt hc
  · exact x_le (lv' := [none, none]) (xw_le_n (xw_le_n xw_le_e)) (kf hc)
theorem s_Model_part_166 {G : xw_G} {F L bc bs : Nat} {pr : Option Value → xw_A → Prop} {px : String → xw_A → Prop} {h : xw_A} {b0 : Nat}  (k : xw G m_Model_part F L bc bs pr px 192 [none, none] [.int 13, .ref b0] h) : xw G m_Model_part F L bc bs pr px 166 [none, none] [.ref b0] h := by
  refine x_bipush (v := 13) d_Model_part_166 (by decide) ?_
  refine x_goto (tgt := 192) d_Model_part_168 (by decide) ?_
  exact k
theorem s_Model_part_171 {G : xw_G} {F L bc bs : Nat} {pr : Option Value → xw_A → Prop} {px : String → xw_A → Prop} {h : xw_A} {a0 : Nat}  (k : xw G m_Model_part F L bc bs pr px 180 [some (.ref a0), none] [.int 82, .int 65, .int 69, .int 78, .ref a0, .ref a0] h) : xw G m_Model_part F L bc bs pr px 171 [some (.ref a0), none] [.ref a0] h := by
  refine x_aload_n d_Model_part_171 rfl rfl ?_
  refine x_bipush (v := 78) d_Model_part_172 (by decide) ?_
  refine x_bipush (v := 69) d_Model_part_174 (by decide) ?_
  refine x_bipush (v := 65) d_Model_part_176 (by decide) ?_
  refine x_bipush (v := 82) d_Model_part_178 (by decide) ?_
  exact k
theorem s_Model_part_183 {G : xw_G} {F L bc bs : Nat} {pr : Option Value → xw_A → Prop} {px : String → xw_A → Prop} {h : xw_A} {y0 : Int32} {b1 : Nat}  (kt : y0 = 0 → xw G m_Model_part F L bc bs pr px 191 [none, none] [.ref b1] h) (kf : ¬ y0 = 0 → xw G m_Model_part F L bc bs pr px 186 [none, none] [.ref b1] h) : xw G m_Model_part F L bc bs pr px 183 [none, none] [.int y0, .ref b1] h := by
  refine x_if_eq (tgt := 191) d_Model_part_183 (by decide) (fun hc => ?_) (fun hc => ?_)
  · exact kt hc
  · exact kf hc
theorem s_Model_part_186 {G : xw_G} {F L bc bs : Nat} {pr : Option Value → xw_A → Prop} {px : String → xw_A → Prop} {h : xw_A} {b0 : Nat}  (k : xw G m_Model_part F L bc bs pr px 192 [none, none] [.int 14, .ref b0] h) : xw G m_Model_part F L bc bs pr px 186 [none, none] [.ref b0] h := by
  refine x_bipush (v := 14) d_Model_part_186 (by decide) ?_
  refine x_goto (tgt := 192) d_Model_part_188 (by decide) ?_
  exact k
theorem s_Model_part_191 {G : xw_G} {F L bc bs : Nat} {pr : Option Value → xw_A → Prop} {px : String → xw_A → Prop} {h : xw_A} {b0 : Nat}  (k : xw G m_Model_part F L bc bs pr px 192 [none, none] [.int 1, .ref b0] h) : xw G m_Model_part F L bc bs pr px 191 [none, none] [.ref b0] h := by
  refine x_iconst (v := 1) d_Model_part_191 (by decide) ?_
  exact k
theorem s_Model_part_192 {G : xw_G} {F L bc bs : Nat} {pr : Option Value → xw_A → Prop} {px : String → xw_A → Prop} {h : xw_A} {y0 : Int32} {b1 : Nat} {fs_b1 : List Value} (l_b1 : fs_b1.length = 62) (e_b1 : h b1 = some (.inr (11, fs_b1))) (k : xw G m_Model_part F L bc bs pr px 366 [none, none] [] (xw_up h b1 (.inr (11, (fs_b1.set 29 (.int y0)))))) : xw G m_Model_part F L bc bs pr px 192 [none, none] [.int y0, .ref b1] h := by
  refine x_put (ty := .int) d_Model_part_192 f_Model_227 fw_Model_29.1 fw_Model_29.2 rfl rfl (by simp [l_b1]) e_b1 ?_
  show xw G m_Model_part F L bc bs pr px 195 [none, none] [] (xw_up h b1 (.inr (11, (fs_b1.set 29 (.int y0)))))
  refine x_goto (tgt := 366) d_Model_part_195 (by decide) ?_
  exact k
theorem s_Model_part_198 {G : xw_G} {F L bc bs : Nat} {pr : Option Value → xw_A → Prop} {px : String → xw_A → Prop} {h : xw_A} {a0 : Nat} {x1 : Int32}  (kt : ¬ x1 = 34 → xw G m_Model_part F L bc bs pr px 275 [some (.ref a0), some (.int x1)] [] h) (kf : x1 = 34 → xw G m_Model_part F L bc bs pr px 204 [some (.ref a0), none] [] h) : xw G m_Model_part F L bc bs pr px 198 [some (.ref a0), some (.int x1)] [] h := by
  refine x_iload_n d_Model_part_198 rfl rfl ?_
  refine x_bipush (v := 34) d_Model_part_199 (by decide) ?_
  refine x_icmp_ne (tgt := 275) d_Model_part_201 (by decide) (fun hc => ?_) (fun hc => ?_)
  · exact kt hc
  · exact x_le (lv' := [some (.ref a0), none]) (xw_le_s (xw_le_n xw_le_e)) (kf hc)
theorem s_Model_part_204 {G : xw_G} {F L bc bs : Nat} {pr : Option Value → xw_A → Prop} {px : String → xw_A → Prop} {h : xw_A} {a0 : Nat} {fs_a0 : List Value} {to_a0 : Int32} {askedSize_a0 : Int32} (l_a0 : fs_a0.length = 62) (e_a0 : h a0 = some (.inr (11, fs_a0))) (g_a0_to : fs_a0[(31 : Nat)]? = some (.int to_a0)) (g_a0_askedSize : fs_a0[(11 : Nat)]? = some (.int askedSize_a0)) (kt : askedSize_a0 ≤ to_a0 → xw G m_Model_part F L bc bs pr px 241 [some (.ref a0), none] [] h) (kf : ¬ askedSize_a0 ≤ to_a0 → xw G m_Model_part F L bc bs pr px 215 [some (.ref a0), none] [] h) : xw G m_Model_part F L bc bs pr px 204 [some (.ref a0), none] [] h := by
  refine x_aload_n d_Model_part_204 rfl rfl ?_
  refine x_get d_Model_part_205 f_Model_215 e_a0 g_a0_to ?_
  refine x_aload_n d_Model_part_208 rfl rfl ?_
  refine x_get d_Model_part_209 f_Model_212 e_a0 g_a0_askedSize ?_
  refine x_icmp_ge (tgt := 241) d_Model_part_212 (by decide) (fun hc => ?_) (fun hc => ?_)
  · exact kt hc
  · exact kf hc
theorem s_Model_part_215 {G : xw_G} {F L bc bs : Nat} {pr : Option Value → xw_A → Prop} {px : String → xw_A → Prop} {h : xw_A} {a0 : Nat} {fs_a0 : List Value} {to_a0 : Int32} (l_a0 : fs_a0.length = 62) (e_a0 : h a0 = some (.inr (11, fs_a0))) (g_a0_to : fs_a0[(31 : Nat)]? = some (.int to_a0)) (k : xw G m_Model_part F L bc bs pr px 220 [some (.ref a0), none] [.int to_a0, .ref a0] h) : xw G m_Model_part F L bc bs pr px 215 [some (.ref a0), none] [] h := by
  refine x_aload_n d_Model_part_215 rfl rfl ?_
  refine x_aload_n d_Model_part_216 rfl rfl ?_
  refine x_get d_Model_part_217 f_Model_215 e_a0 g_a0_to ?_
  exact k
theorem s_Model_part_223 {G : xw_G} {F L bc bs : Nat} {pr : Option Value → xw_A → Prop} {px : String → xw_A → Prop} {h : xw_A} {a0 : Nat} {y0 : Int32}  (kt : y0 = 34 → xw G m_Model_part F L bc bs pr px 241 [some (.ref a0), none] [] h) (kf : ¬ y0 = 34 → xw G m_Model_part F L bc bs pr px 228 [some (.ref a0), none] [] h) : xw G m_Model_part F L bc bs pr px 223 [some (.ref a0), none] [.int y0] h := by
  refine x_bipush (v := 34) d_Model_part_223 (by decide) ?_
  refine x_icmp_eq (tgt := 241) d_Model_part_225 (by decide) (fun hc => ?_) (fun hc => ?_)
  · exact kt hc
  · exact kf hc
theorem s_Model_part_228 {G : xw_G} {F L bc bs : Nat} {pr : Option Value → xw_A → Prop} {px : String → xw_A → Prop} {h : xw_A} {a0 : Nat} {fs_a0 : List Value} {to_a0 : Int32} (l_a0 : fs_a0.length = 62) (e_a0 : h a0 = some (.inr (11, fs_a0))) (g_a0_to : fs_a0[(31 : Nat)]? = some (.int to_a0)) (k : xw G m_Model_part F L bc bs pr px 204 [some (.ref a0), none] [] (xw_up h a0 (.inr (11, (fs_a0.set 31 (.int (to_a0 + 1))))))) : xw G m_Model_part F L bc bs pr px 228 [some (.ref a0), none] [] h := by
  refine x_aload_n d_Model_part_228 rfl rfl ?_
  refine x_dup d_Model_part_229 rfl ?_
  refine x_get d_Model_part_230 f_Model_215 e_a0 g_a0_to ?_
  refine x_iconst (v := 1) d_Model_part_233 (by decide) ?_
  refine x_iadd d_Model_part_234 ?_
  refine x_put (ty := .int) d_Model_part_235 f_Model_215 fw_Model_31.1 fw_Model_31.2 rfl rfl (by simp [l_a0]) e_a0 ?_
  show xw G m_Model_part F L bc bs pr px 238 [some (.ref a0), none] [] (xw_up h a0 (.inr (11, (fs_a0.set 31 (.int (to_a0 + 1))))))
  refine x_goto (tgt := 204) d_Model_part_238 (by decide) ?_
  exact k
theorem s_Model_part_241 {G : xw_G} {F L bc bs : Nat} {pr : Option Value → xw_A → Prop} {px : String → xw_A → Prop} {h : xw_A} {a0 : Nat} {fs_a0 : List Value} {to_a0 : Int32} {askedSize_a0 : Int32} (l_a0 : fs_a0.length = 62) (e_a0 : h a0 = some (.inr (11, fs_a0))) (g_a0_to : fs_a0[(31 : Nat)]? = some (.int to_a0)) (g_a0_askedSize : fs_a0[(11 : Nat)]? = some (.int askedSize_a0)) (kt : askedSize_a0 ≤ to_a0 → xw G m_Model_part F L bc bs pr px 257 [some (.ref a0), none] [.ref a0] h) (kf : ¬ askedSize_a0 ≤ to_a0 → xw G m_Model_part F L bc bs pr px 253 [some (.ref a0), none] [.ref a0] h) : xw G m_Model_part F L bc bs pr px 241 [some (.ref a0), none] [] h := by
  refine x_aload_n d_Model_part_241 rfl rfl ?_
  refine x_aload_n d_Model_part_242 rfl rfl ?_
  refine x_get d_Model_part_243 f_Model_215 e_a0 g_a0_to ?_
  refine x_aload_n d_Model_part_246 rfl rfl ?_
  refine x_get d_Model_part_247 f_Model_212 e_a0 g_a0_askedSize ?_
  refine x_icmp_ge (tgt := 257) d_Model_part_250 (by decide) (fun hc => ?_) (fun hc => ?_)
  · exact kt hc
  · exact kf hc
theorem s_Model_part_253 {G : xw_G} {F L bc bs : Nat} {pr : Option Value → xw_A → Prop} {px : String → xw_A → Prop} {h : xw_A} {a0 : Nat}  (k : xw G m_Model_part F L bc bs pr px 259 [some (.ref a0), none] [.int 2, .ref a0] h) : xw G m_Model_part F L bc bs pr px 253 [some (.ref a0), none] [.ref a0] h := by
  refine x_iconst (v := 2) d_Model_part_253 (by decide) ?_
  refine x_goto (tgt := 259) d_Model_part_254 (by decide) ?_
  exact k
theorem s_Model_part_257 {G : xw_G} {F L bc bs : Nat} {pr : Option Value → xw_A → Prop} {px : String → xw_A → Prop} {h : xw_A} {a0 : Nat}  (k : xw G m_Model_part F L bc bs pr px 259 [some (.ref a0), none] [.int 15, .ref a0] h) : xw G m_Model_part F L bc bs pr px 257 [some (.ref a0), none] [.ref a0] h := by
  refine x_bipush (v := 15) d_Model_part_257 (by decide) ?_
  exact k
theorem s_Model_part_259 {G : xw_G} {F L bc bs : Nat} {pr : Option Value → xw_A → Prop} {px : String → xw_A → Prop} {h : xw_A} {a0 : Nat} {y0 : Int32} {fs_a0 : List Value} {to_a0 : Int32} (l_a0 : fs_a0.length = 62) (e_a0 : h a0 = some (.inr (11, fs_a0))) (g_a0_to : fs_a0[(31 : Nat)]? = some (.int to_a0)) (k : xw G m_Model_part F L bc bs pr px 366 [none, none] [] (xw_up (xw_up h a0 (.inr (11, (fs_a0.set 29 (.int y0))))) a0 (.inr (11, ((fs_a0.set 29 (.int y0)).set 31 (.int (to_a0 + 1))))))) : xw G m_Model_part F L bc bs pr px 259 [some (.ref a0), none] [.int y0, .ref a0] h := by
  refine x_put (ty := .int) d_Model_part_259 f_Model_227 fw_Model_29.1 fw_Model_29.2 rfl rfl (by simp [l_a0]) e_a0 ?_
  show xw G m_Model_part F L bc bs pr px 262 [some (.ref a0), none] [] (xw_up h a0 (.inr (11, (fs_a0.set 29 (.int y0)))))
  refine x_aload_n d_Model_part_262 rfl rfl ?_
  refine x_dup d_Model_part_263 rfl ?_
  refine x_get d_Model_part_264 f_Model_215 (xw_up_s _ _ _) (xw_gn (by decide) g_a0_to) ?_
  refine x_iconst (v := 1) d_Model_part_267 (by decide) ?_
  refine x_iadd d_Model_part_268 ?_
  refine x_put (ty := .int) d_Model_part_269 f_Model_215 fw_Model_31.1 fw_Model_31.2 rfl rfl (by simp [l_a0]) (xw_up_s _ _ _) ?_
  show xw G m_Model_part F L bc bs pr px 272 [some (.ref a0), none] [] (xw_up (xw_up h a0 (.inr (11, (fs_a0.set 29 (.int y0))))) a0 (.inr (11, ((fs_a0.set 29 (.int y0)).set 31 (.int (to_a0 + 1))))))
  refine x_goto (tgt := 366) d_Model_part_272 (by decide) ?_
  exact x_le (lv' := [none, none]) (xw_le_n (xw_le_n xw_le_e)) (k)
theorem s_Model_part_275 {G : xw_G} {F L bc bs : Nat} {pr : Option Value → xw_A → Prop} {px : String → xw_A → Prop} {h : xw_A} {a0 : Nat} {x1 : Int32}  (kt : ¬ x1 = 40 → xw G m_Model_part F L bc bs pr px 286 [none, some (.int x1)] [.ref a0] h) (kf : x1 = 40 → xw G m_Model_part F L bc bs pr px 282 [none, none] [.ref a0] h) : xw G m_Model_part F L bc bs pr px 275 [some (.ref a0), some (.int x1)] [] h := by
  refine x_aload_n d_Model_part_275 rfl rfl ?_
  refine x_iload_n d_Model_part_276 rfl rfl ?_
  refine x_bipush (v := 40) d_Model_part_277 (by decide) ?_
  refine x_icmp_ne (tgt := 286) d_Model_part_279 (by decide) (fun hc => ?_) (fun hc => ?_)
  · exact x_le (lv' := [none, some (.int x1)]) (xw_le_n (xw_le_s xw_le_e)) (kt hc)
  · exact x_le (lv' := [none, none]) (xw_le_n (xw_le_n xw_le_e)) (kf hc)
theorem s_Model_part_282 {G : xw_G} {F L bc bs : Nat} {pr : Option Value → xw_A → Prop} {px : String → xw_A → Prop} {h : xw_A} {b0 : Nat}  (k : xw G m_Model_part F L bc bs pr px 363 [none, none] [.int 3, .ref b0] h) : xw G m_Model_part F L bc bs pr px 282 [none, none] [.ref b0] h := by
  refine x_iconst (v := 3) d_Model_part_282 (by decide) ?_
  refine x_goto (tgt := 363) d_Model_part_283 (by decide) ?_
  exact k
theorem s_Model_part_286 {G : xw_G} {F L bc bs : Nat} {pr : Option Value → xw_A → Prop} {px : String → xw_A → Prop} {h : xw_A} {x1 : Int32} {b0 : Nat}  (kt : ¬ x1 = 41 → xw G m_Model_part F L bc bs pr px 296 [none, some (.int x1)] [.ref b0] h) (kf : x1 = 41 → xw G m_Model_part F L bc bs pr px 292 [none, none] [.ref b0] h) : xw G m_Model_part F L bc bs pr px 286 [none, some (.int x1)] [.ref b0] h := by
  refine x_iload_n d_Model_part_286 rfl rfl ?_
  refine x_bipush (v := 41) d_Model_part_287 (by decide) ?_
  refine x_icmp_ne (tgt := 296) d_Model_part_289 (by decide) (fun hc => ?_) (fun hc => ?_)
  · exact kt hc
  · exact x_le (lv' := [none, none]) (xw_le_n (xw_le_n xw_le_e)) (kf hc)
theorem s_Model_part_292 {G : xw_G} {F L bc bs : Nat} {pr : Option Value → xw_A → Prop} {px : String → xw_A → Prop} {h : xw_A} {b0 : Nat}  (k : xw G m_Model_part F L bc bs pr px 363 [none, none] [.int 4, .ref b0] h) : xw G m_Model_part F L bc bs pr px 292 [none, none] [.ref b0] h := by
  refine x_iconst (v := 4) d_Model_part_292 (by decide) ?_
  refine x_goto (tgt := 363) d_Model_part_293 (by decide) ?_
  exact k
theorem s_Model_part_296 {G : xw_G} {F L bc bs : Nat} {pr : Option Value → xw_A → Prop} {px : String → xw_A → Prop} {h : xw_A} {x1 : Int32} {b0 : Nat}  (kt : ¬ x1 = 58 → xw G m_Model_part F L bc bs pr px 306 [none, some (.int x1)] [.ref b0] h) (kf : x1 = 58 → xw G m_Model_part F L bc bs pr px 302 [none, none] [.ref b0] h) : xw G m_Model_part F L bc bs pr px 296 [none, some (.int x1)] [.ref b0] h := by
  refine x_iload_n d_Model_part_296 rfl rfl ?_
  refine x_bipush (v := 58) d_Model_part_297 (by decide) ?_
  refine x_icmp_ne (tgt := 306) d_Model_part_299 (by decide) (fun hc => ?_) (fun hc => ?_)
  · exact kt hc
  · exact x_le (lv' := [none, none]) (xw_le_n (xw_le_n xw_le_e)) (kf hc)
theorem s_Model_part_302 {G : xw_G} {F L bc bs : Nat} {pr : Option Value → xw_A → Prop} {px : String → xw_A → Prop} {h : xw_A} {b0 : Nat}  (k : xw G m_Model_part F L bc bs pr px 363 [none, none] [.int 5, .ref b0] h) : xw G m_Model_part F L bc bs pr px 302 [none, none] [.ref b0] h := by
  refine x_iconst (v := 5) d_Model_part_302 (by decide) ?_
  refine x_goto (tgt := 363) d_Model_part_303 (by decide) ?_
  exact k
theorem s_Model_part_306 {G : xw_G} {F L bc bs : Nat} {pr : Option Value → xw_A → Prop} {px : String → xw_A → Prop} {h : xw_A} {x1 : Int32} {b0 : Nat}  (kt : ¬ x1 = 45 → xw G m_Model_part F L bc bs pr px 317 [none, some (.int x1)] [.ref b0] h) (kf : x1 = 45 → xw G m_Model_part F L bc bs pr px 312 [none, none] [.ref b0] h) : xw G m_Model_part F L bc bs pr px 306 [none, some (.int x1)] [.ref b0] h := by
  refine x_iload_n d_Model_part_306 rfl rfl ?_
  refine x_bipush (v := 45) d_Model_part_307 (by decide) ?_
  refine x_icmp_ne (tgt := 317) d_Model_part_309 (by decide) (fun hc => ?_) (fun hc => ?_)
  · exact kt hc
  · exact x_le (lv' := [none, none]) (xw_le_n (xw_le_n xw_le_e)) (kf hc)
theorem s_Model_part_312 {G : xw_G} {F L bc bs : Nat} {pr : Option Value → xw_A → Prop} {px : String → xw_A → Prop} {h : xw_A} {b0 : Nat}  (k : xw G m_Model_part F L bc bs pr px 363 [none, none] [.int 6, .ref b0] h) : xw G m_Model_part F L bc bs pr px 312 [none, none] [.ref b0] h := by
  refine x_bipush (v := 6) d_Model_part_312 (by decide) ?_
  refine x_goto (tgt := 363) d_Model_part_314 (by decide) ?_
  exact k
theorem s_Model_part_317 {G : xw_G} {F L bc bs : Nat} {pr : Option Value → xw_A → Prop} {px : String → xw_A → Prop} {h : xw_A} {x1 : Int32} {b0 : Nat}  (kt : ¬ x1 = 94 → xw G m_Model_part F L bc bs pr px 328 [none, some (.int x1)] [.ref b0] h) (kf : x1 = 94 → xw G m_Model_part F L bc bs pr px 323 [none, none] [.ref b0] h) : xw G m_Model_part F L bc bs pr px 317 [none, some (.int x1)] [.ref b0] h := by
  refine x_iload_n d_Model_part_317 rfl rfl ?_
  refine x_bipush (v := 94) d_Model_part_318 (by decide) ?_
  refine x_icmp_ne (tgt := 328) d_Model_part_320 (by decide) (fun hc => ?_) (fun hc => ?_)
  · exact kt hc
  · exact x_le (lv' := [none, none]) (xw_le_n (xw_le_n xw_le_e)) (kf hc)
theorem s_Model_part_323 {G : xw_G} {F L bc bs : Nat} {pr : Option Value → xw_A → Prop} {px : String → xw_A → Prop} {h : xw_A} {b0 : Nat}  (k : xw G m_Model_part F L bc bs pr px 363 [none, none] [.int 7, .ref b0] h) : xw G m_Model_part F L bc bs pr px 323 [none, none] [.ref b0] h := by
  refine x_bipush (v := 7) d_Model_part_323 (by decide) ?_
  refine x_goto (tgt := 363) d_Model_part_325 (by decide) ?_
  exact k
theorem s_Model_part_328 {G : xw_G} {F L bc bs : Nat} {pr : Option Value → xw_A → Prop} {px : String → xw_A → Prop} {h : xw_A} {x1 : Int32} {b0 : Nat}  (kt : ¬ x1 = 43 → xw G m_Model_part F L bc bs pr px 339 [none, some (.int x1)] [.ref b0] h) (kf : x1 = 43 → xw G m_Model_part F L bc bs pr px 334 [none, none] [.ref b0] h) : xw G m_Model_part F L bc bs pr px 328 [none, some (.int x1)] [.ref b0] h := by
  refine x_iload_n d_Model_part_328 rfl rfl ?_
  refine x_bipush (v := 43) d_Model_part_329 (by decide) ?_
  refine x_icmp_ne (tgt := 339) d_Model_part_331 (by decide) (fun hc => ?_) (fun hc => ?_)
  · exact kt hc
  · exact x_le (lv' := [none, none]) (xw_le_n (xw_le_n xw_le_e)) (kf hc)
theorem s_Model_part_334 {G : xw_G} {F L bc bs : Nat} {pr : Option Value → xw_A → Prop} {px : String → xw_A → Prop} {h : xw_A} {b0 : Nat}  (k : xw G m_Model_part F L bc bs pr px 363 [none, none] [.int 8, .ref b0] h) : xw G m_Model_part F L bc bs pr px 334 [none, none] [.ref b0] h := by
  refine x_bipush (v := 8) d_Model_part_334 (by decide) ?_
  refine x_goto (tgt := 363) d_Model_part_336 (by decide) ?_
  exact k
theorem s_Model_part_339 {G : xw_G} {F L bc bs : Nat} {pr : Option Value → xw_A → Prop} {px : String → xw_A → Prop} {h : xw_A} {x1 : Int32} {b0 : Nat}  (kt : ¬ x1 = 42 → xw G m_Model_part F L bc bs pr px 350 [none, some (.int x1)] [.ref b0] h) (kf : x1 = 42 → xw G m_Model_part F L bc bs pr px 345 [none, none] [.ref b0] h) : xw G m_Model_part F L bc bs pr px 339 [none, some (.int x1)] [.ref b0] h := by
  refine x_iload_n d_Model_part_339 rfl rfl ?_
  refine x_bipush (v := 42) d_Model_part_340 (by decide) ?_
  refine x_icmp_ne (tgt := 350) d_Model_part_342 (by decide) (fun hc => ?_) (fun hc => ?_)
  · exact kt hc
  · exact x_le (lv' := [none, none]) (xw_le_n (xw_le_n xw_le_e)) (kf hc)
theorem s_Model_part_345 {G : xw_G} {F L bc bs : Nat} {pr : Option Value → xw_A → Prop} {px : String → xw_A → Prop} {h : xw_A} {b0 : Nat}  (k : xw G m_Model_part F L bc bs pr px 363 [none, none] [.int 9, .ref b0] h) : xw G m_Model_part F L bc bs pr px 345 [none, none] [.ref b0] h := by
  refine x_bipush (v := 9) d_Model_part_345 (by decide) ?_
  refine x_goto (tgt := 363) d_Model_part_347 (by decide) ?_
  exact k
theorem s_Model_part_350 {G : xw_G} {F L bc bs : Nat} {pr : Option Value → xw_A → Prop} {px : String → xw_A → Prop} {h : xw_A} {x1 : Int32} {b0 : Nat}  (kt : ¬ x1 = 44 → xw G m_Model_part F L bc bs pr px 361 [none, none] [.ref b0] h) (kf : x1 = 44 → xw G m_Model_part F L bc bs pr px 356 [none, none] [.ref b0] h) : xw G m_Model_part F L bc bs pr px 350 [none, some (.int x1)] [.ref b0] h := by
  refine x_iload_n d_Model_part_350 rfl rfl ?_
  refine x_bipush (v := 44) d_Model_part_351 (by decide) ?_
  refine x_icmp_ne (tgt := 361) d_Model_part_353 (by decide) (fun hc => ?_) (fun hc => ?_)
  · exact x_le (lv' := [none, none]) (xw_le_n (xw_le_n xw_le_e)) (kt hc)
  · exact x_le (lv' := [none, none]) (xw_le_n (xw_le_n xw_le_e)) (kf hc)
theorem s_Model_part_356 {G : xw_G} {F L bc bs : Nat} {pr : Option Value → xw_A → Prop} {px : String → xw_A → Prop} {h : xw_A} {b0 : Nat}  (k : xw G m_Model_part F L bc bs pr px 363 [none, none] [.int 10, .ref b0] h) : xw G m_Model_part F L bc bs pr px 356 [none, none] [.ref b0] h := by
  refine x_bipush (v := 10) d_Model_part_356 (by decide) ?_
  refine x_goto (tgt := 363) d_Model_part_358 (by decide) ?_
  exact k
theorem s_Model_part_361 {G : xw_G} {F L bc bs : Nat} {pr : Option Value → xw_A → Prop} {px : String → xw_A → Prop} {h : xw_A} {b0 : Nat}  (k : xw G m_Model_part F L bc bs pr px 363 [none, none] [.int 15, .ref b0] h) : xw G m_Model_part F L bc bs pr px 361 [none, none] [.ref b0] h := by
  refine x_bipush (v := 15) d_Model_part_361 (by decide) ?_
  exact k
theorem s_Model_part_363 {G : xw_G} {F L bc bs : Nat} {pr : Option Value → xw_A → Prop} {px : String → xw_A → Prop} {h : xw_A} {y0 : Int32} {b1 : Nat} {fs_b1 : List Value} (l_b1 : fs_b1.length = 62) (e_b1 : h b1 = some (.inr (11, fs_b1))) (k : xw G m_Model_part F L bc bs pr px 366 [none, none] [] (xw_up h b1 (.inr (11, (fs_b1.set 29 (.int y0)))))) : xw G m_Model_part F L bc bs pr px 363 [none, none] [.int y0, .ref b1] h := by
  refine x_put (ty := .int) d_Model_part_363 f_Model_227 fw_Model_29.1 fw_Model_29.2 rfl rfl (by simp [l_b1]) e_b1 ?_
  show xw G m_Model_part F L bc bs pr px 366 [none, none] [] (xw_up h b1 (.inr (11, (fs_b1.set 29 (.int y0)))))
  exact k
theorem s_Model_part_366 {G : xw_G} {F L bc bs : Nat} {pr : Option Value → xw_A → Prop} {px : String → xw_A → Prop} {h : xw_A}   (kr : pr none h) : xw G m_Model_part F L bc bs pr px 366 [none, none] [] h := by
  exact x_vret d_Model_part_366 rfl kr
theorem s_Model_q_0 {G : xw_G} {F L bc bs : Nat} {pr : Option Value → xw_A → Prop} {px : String → xw_A → Prop} {h : xw_A} {a0 : Nat} {x1 : Int32} {fs_a0 : List Value} {askedSize_a0 : Int32} (l_a0 : fs_a0.length = 62) (e_a0 : h a0 = some (.inr (11, fs_a0))) (g_a0_askedSize : fs_a0[(11 : Nat)]? = some (.int askedSize_a0)) (kt : askedSize_a0 ≤ x1 → xw G m_Model_q F L bc bs pr px 17 [none, none] [] h) (kf : ¬ askedSize_a0 ≤ x1 → xw G m_Model_q F L bc bs pr px 8 [some (.ref a0), some (.int x1)] [] h) : xw G m_Model_q F L bc bs pr px 0 [some (.ref a0), some (.int x1)] [] h := by
  refine x_iload_n d_Model_q_0 rfl rfl ?_
  refine x_aload_n d_Model_q_1 rfl rfl ?_
  refine x_get d_Model_q_2 f_Model_212 e_a0 g_a0_askedSize ?_
  refine x_icmp_ge (tgt := 17) d_Model_q_5 (by decide) (fun hc => ?_) (fun hc => ?_)
  · exact x_le (lv' := [none, none]) (xw_le_n (xw_le_n xw_le_e)) (kt hc)
  · exact kf hc
theorem s_Model_q_8 {G : xw_G} {F L bc bs : Nat} {pr : Option Value → xw_A → Prop} {px : String → xw_A → Prop} {h : xw_A} {a0 : Nat} {x1 : Int32} {fs_a0 : List Value} {asked_a0 : Nat} {n_asked_a0 : Nat} {f_asked_a0 : Nat → Int32} (l_a0 : fs_a0.length = 62) (e_a0 : h a0 = some (.inr (11, fs_a0))) (g_a0_asked : fs_a0[(4 : Nat)]? = some (.ref asked_a0)) (e_asked_a0 : h asked_a0 = some (.inl (0, n_asked_a0, .inl f_asked_a0))) (i_13 : vp_in x1 n_asked_a0) (k : xw G m_Model_q F L bc bs pr px 18 [none, none] [.int (f_asked_a0 x1.toNatClampNeg)] h) : xw G m_Model_q F L bc bs pr px 8 [some (.ref a0), some (.int x1)] [] h := by
  refine x_aload_n d_Model_q_8 rfl rfl ?_
  refine x_get d_Model_q_9 f_Model_20 e_a0 g_a0_asked ?_
  refine x_iload_n d_Model_q_12 rfl rfl ?_
  refine x_iald d_Model_q_13 e_asked_a0 i_13 ?_
  refine x_goto (tgt := 18) d_Model_q_14 (by decide) ?_
  exact x_le (lv' := [none, none]) (xw_le_n (xw_le_n xw_le_e)) (k)
theorem s_Model_q_17 {G : xw_G} {F L bc bs : Nat} {pr : Option Value → xw_A → Prop} {px : String → xw_A → Prop} {h : xw_A}   (k : xw G m_Model_q F L bc bs pr px 18 [none, none] [.int 0] h) : xw G m_Model_q F L bc bs pr px 17 [none, none] [] h := by
  refine x_iconst (v := 0) d_Model_q_17 (by decide) ?_
  exact k
theorem s_Model_q_18 {G : xw_G} {F L bc bs : Nat} {pr : Option Value → xw_A → Prop} {px : String → xw_A → Prop} {h : xw_A} {y0 : Int32}  (kr : pr (some (.int y0)) h) : xw G m_Model_q F L bc bs pr px 18 [none, none] [.int y0] h := by
  exact x_iret d_Model_q_18 rfl kr
theorem s_Model_spells_0 {G : xw_G} {F L bc bs : Nat} {pr : Option Value → xw_A → Prop} {px : String → xw_A → Prop} {h : xw_A} {a0 : Nat} {x1 : Int32} {x2 : Int32} {x3 : Int32} {x4 : Int32}  (kt : x4 ≤ 0 → xw G m_Model_spells F L bc bs pr px 9 [some (.ref a0), some (.int x1), some (.int x2), some (.int x3), some (.int x4), none] [] h) (kf : ¬ x4 ≤ 0 → xw G m_Model_spells F L bc bs pr px 5 [some (.ref a0), some (.int x1), some (.int x2), some (.int x3), some (.int x4), none] [] h) : xw G m_Model_spells F L bc bs pr px 0 [some (.ref a0), some (.int x1), some (.int x2), some (.int x3), some (.int x4), none] [] h := by
  refine x_iload d_Model_spells_0 rfl ?_
  refine x_if_le (tgt := 9) d_Model_spells_2 (by decide) (fun hc => ?_) (fun hc => ?_)
  · exact kt hc
  · exact kf hc
theorem s_Model_spells_5 {G : xw_G} {F L bc bs : Nat} {pr : Option Value → xw_A → Prop} {px : String → xw_A → Prop} {h : xw_A} {a0 : Nat} {x1 : Int32} {x2 : Int32} {x3 : Int32} {x4 : Int32}  (k : xw G m_Model_spells F L bc bs pr px 18 [some (.ref a0), some (.int x1), some (.int x2), some (.int x3), some (.int x4), none] [.int 4] h) : xw G m_Model_spells F L bc bs pr px 5 [some (.ref a0), some (.int x1), some (.int x2), some (.int x3), some (.int x4), none] [] h := by
  refine x_iconst (v := 4) d_Model_spells_5 (by decide) ?_
  refine x_goto (tgt := 18) d_Model_spells_6 (by decide) ?_
  exact k
theorem s_Model_spells_9 {G : xw_G} {F L bc bs : Nat} {pr : Option Value → xw_A → Prop} {px : String → xw_A → Prop} {h : xw_A} {a0 : Nat} {x1 : Int32} {x2 : Int32} {x3 : Int32} {x4 : Int32}  (kt : x3 ≤ 0 → xw G m_Model_spells F L bc bs pr px 17 [some (.ref a0), some (.int x1), some (.int x2), some (.int x3), some (.int x4), none] [] h) (kf : ¬ x3 ≤ 0 → xw G m_Model_spells F L bc bs pr px 13 [some (.ref a0), some (.int x1), some (.int x2), some (.int x3), some (.int x4), none] [] h) : xw G m_Model_spells F L bc bs pr px 9 [some (.ref a0), some (.int x1), some (.int x2), some (.int x3), some (.int x4), none] [] h := by
  refine x_iload_n d_Model_spells_9 rfl rfl ?_
  refine x_if_le (tgt := 17) d_Model_spells_10 (by decide) (fun hc => ?_) (fun hc => ?_)
  · exact kt hc
  · exact kf hc
theorem s_Model_spells_13 {G : xw_G} {F L bc bs : Nat} {pr : Option Value → xw_A → Prop} {px : String → xw_A → Prop} {h : xw_A} {a0 : Nat} {x1 : Int32} {x2 : Int32} {x3 : Int32} {x4 : Int32}  (k : xw G m_Model_spells F L bc bs pr px 18 [some (.ref a0), some (.int x1), some (.int x2), some (.int x3), some (.int x4), none] [.int 3] h) : xw G m_Model_spells F L bc bs pr px 13 [some (.ref a0), some (.int x1), some (.int x2), some (.int x3), some (.int x4), none] [] h := by
  refine x_iconst (v := 3) d_Model_spells_13 (by decide) ?_
  refine x_goto (tgt := 18) d_Model_spells_14 (by decide) ?_
  exact k
theorem s_Model_spells_17 {G : xw_G} {F L bc bs : Nat} {pr : Option Value → xw_A → Prop} {px : String → xw_A → Prop} {h : xw_A} {a0 : Nat} {x1 : Int32} {x2 : Int32} {x3 : Int32} {x4 : Int32}  (k : xw G m_Model_spells F L bc bs pr px 18 [some (.ref a0), some (.int x1), some (.int x2), some (.int x3), some (.int x4), none] [.int 2] h) : xw G m_Model_spells F L bc bs pr px 17 [some (.ref a0), some (.int x1), some (.int x2), some (.int x3), some (.int x4), none] [] h := by
  refine x_iconst (v := 2) d_Model_spells_17 (by decide) ?_
  exact k
theorem s_Model_spells_18 {G : xw_G} {F L bc bs : Nat} {pr : Option Value → xw_A → Prop} {px : String → xw_A → Prop} {h : xw_A} {a0 : Nat} {x1 : Int32} {x2 : Int32} {x3 : Int32} {x4 : Int32} {y0 : Int32} {fs_a0 : List Value} {to_a0 : Int32} {from_a0 : Int32} (l_a0 : fs_a0.length = 62) (e_a0 : h a0 = some (.inr (11, fs_a0))) (g_a0_to : fs_a0[(31 : Nat)]? = some (.int to_a0)) (g_a0_from : fs_a0[(30 : Nat)]? = some (.int from_a0)) (kt : ¬ (to_a0 - from_a0) = y0 → xw G m_Model_spells F L bc bs pr px 105 [none, none, none, none, none, none] [] h) (kf : (to_a0 - from_a0) = y0 → xw G m_Model_spells F L bc bs pr px 34 [some (.ref a0), some (.int x1), some (.int x2), some (.int x3), some (.int x4), some (.int y0)] [] h) : xw G m_Model_spells F L bc bs pr px 18 [some (.ref a0), some (.int x1), some (.int x2), some (.int x3), some (.int x4), none] [.int y0] h := by
  refine x_istore d_Model_spells_18 (by decide) rfl ?_
  show xw G m_Model_spells F L bc bs pr px 20 [some (.ref a0), some (.int x1), some (.int x2), some (.int x3), some (.int x4), some (.int y0)] [] h
  refine x_aload_n d_Model_spells_20 rfl rfl ?_
  refine x_get d_Model_spells_21 f_Model_215 e_a0 g_a0_to ?_
  refine x_aload_n d_Model_spells_24 rfl rfl ?_
  refine x_get d_Model_spells_25 f_Model_218 e_a0 g_a0_from ?_
  refine x_isub d_Model_spells_28 ?_
  refine x_iload d_Model_spells_29 rfl ?_
  refine x_icmp_ne (tgt := 105) d_Model_spells_31 (by decide) (fun hc => ?_) (fun hc => ?_)
  · exact x_le (lv' := [none, none, none, none, none, none]) (xw_le_n (xw_le_n (xw_le_n (xw_le_n (xw_le_n (xw_le_n xw_le_e)))))) (kt hc)
  · exact kf hc
theorem s_Model_spells_34 {G : xw_G} {F L bc bs : Nat} {pr : Option Value → xw_A → Prop} {px : String → xw_A → Prop} {h : xw_A} {a0 : Nat} {x1 : Int32} {x2 : Int32} {x3 : Int32} {x4 : Int32} {x5 : Int32} {fs_a0 : List Value} {from_a0 : Int32} (l_a0 : fs_a0.length = 62) (e_a0 : h a0 = some (.inr (11, fs_a0))) (g_a0_from : fs_a0[(30 : Nat)]? = some (.int from_a0)) (k : xw G m_Model_spells F L bc bs pr px 39 [some (.ref a0), some (.int x1), some (.int x2), some (.int x3), some (.int x4), some (.int x5)] [.int from_a0, .ref a0] h) : xw G m_Model_spells F L bc bs pr px 34 [some (.ref a0), some (.int x1), some (.int x2), some (.int x3), some (.int x4), some (.int x5)] [] h := by
  refine x_aload_n d_Model_spells_34 rfl rfl ?_
  refine x_aload_n d_Model_spells_35 rfl rfl ?_
  refine x_get d_Model_spells_36 f_Model_218 e_a0 g_a0_from ?_
  exact k
theorem s_Model_spells_42 {G : xw_G} {F L bc bs : Nat} {pr : Option Value → xw_A → Prop} {px : String → xw_A → Prop} {h : xw_A} {a0 : Nat} {x1 : Int32} {x2 : Int32} {x3 : Int32} {x4 : Int32} {x5 : Int32} {y0 : Int32}  (kt : ¬ y0 = x1 → xw G m_Model_spells F L bc bs pr px 105 [none, none, none, none, none, none] [] h) (kf : y0 = x1 → xw G m_Model_spells F L bc bs pr px 46 [some (.ref a0), none, some (.int x2), some (.int x3), some (.int x4), some (.int x5)] [] h) : xw G m_Model_spells F L bc bs pr px 42 [some (.ref a0), some (.int x1), some (.int x2), some (.int x3), some (.int x4), some (.int x5)] [.int y0] h := by
  refine x_iload_n d_Model_spells_42 rfl rfl ?_
  refine x_icmp_ne (tgt := 105) d_Model_spells_43 (by decide) (fun hc => ?_) (fun hc => ?_)
  · exact x_le (lv' := [none, none, none, none, none, none]) (xw_le_n (xw_le_n (xw_le_n (xw_le_n (xw_le_n (xw_le_n xw_le_e)))))) (kt hc)
  · exact x_le (lv' := [some (.ref a0), none, some (.int x2), some (.int x3), some (.int x4), some (.int x5)]) (xw_le_s (xw_le_n (xw_le_s (xw_le_s (xw_le_s (xw_le_s xw_le_e)))))) (kf hc)
theorem s_Model_spells_46 {G : xw_G} {F L bc bs : Nat} {pr : Option Value → xw_A → Prop} {px : String → xw_A → Prop} {h : xw_A} {a0 : Nat} {x2 : Int32} {x3 : Int32} {x4 : Int32} {x5 : Int32} {fs_a0 : List Value} {from_a0 : Int32} (l_a0 : fs_a0.length = 62) (e_a0 : h a0 = some (.inr (11, fs_a0))) (g_a0_from : fs_a0[(30 : Nat)]? = some (.int from_a0)) (k : xw G m_Model_spells F L bc bs pr px 53 [some (.ref a0), none, some (.int x2), some (.int x3), some (.int x4), some (.int x5)] [.int (from_a0 + 1), .ref a0] h) : xw G m_Model_spells F L bc bs pr px 46 [some (.ref a0), none, some (.int x2), some (.int x3), some (.int x4), some (.int x5)] [] h := by
  refine x_aload_n d_Model_spells_46 rfl rfl ?_
  refine x_aload_n d_Model_spells_47 rfl rfl ?_
  refine x_get d_Model_spells_48 f_Model_218 e_a0 g_a0_from ?_
  refine x_iconst (v := 1) d_Model_spells_51 (by decide) ?_
  refine x_iadd d_Model_spells_52 ?_
  exact k
theorem s_Model_spells_56 {G : xw_G} {F L bc bs : Nat} {pr : Option Value → xw_A → Prop} {px : String → xw_A → Prop} {h : xw_A} {a0 : Nat} {x2 : Int32} {x3 : Int32} {x4 : Int32} {x5 : Int32} {y0 : Int32}  (kt : ¬ y0 = x2 → xw G m_Model_spells F L bc bs pr px 105 [none, none, none, none, none, none] [] h) (kf : y0 = x2 → xw G m_Model_spells F L bc bs pr px 60 [some (.ref a0), none, none, some (.int x3), some (.int x4), some (.int x5)] [] h) : xw G m_Model_spells F L bc bs pr px 56 [some (.ref a0), none, some (.int x2), some (.int x3), some (.int x4), some (.int x5)] [.int y0] h := by
  refine x_iload_n d_Model_spells_56 rfl rfl ?_
  refine x_icmp_ne (tgt := 105) d_Model_spells_57 (by decide) (fun hc => ?_) (fun hc => ?_)
  · exact x_le (lv' := [none, none, none, none, none, none]) (xw_le_n (xw_le_n (xw_le_n (xw_le_n (xw_le_n (xw_le_n xw_le_e)))))) (kt hc)
  · exact x_le (lv' := [some (.ref a0), none, none, some (.int x3), some (.int x4), some (.int x5)]) (xw_le_s (xw_le_n (xw_le_n (xw_le_s (xw_le_s (xw_le_s xw_le_e)))))) (kf hc)
theorem s_Model_spells_60 {G : xw_G} {F L bc bs : Nat} {pr : Option Value → xw_A → Prop} {px : String → xw_A → Prop} {h : xw_A} {a0 : Nat} {x3 : Int32} {x4 : Int32} {x5 : Int32}  (kt : x5 < 3 → xw G m_Model_spells F L bc bs pr px 80 [some (.ref a0), none, none, none, some (.int x4), some (.int x5)] [] h) (kf : ¬ x5 < 3 → xw G m_Model_spells F L bc bs pr px 66 [some (.ref a0), none, none, some (.int x3), some (.int x4), some (.int x5)] [] h) : xw G m_Model_spells F L bc bs pr px 60 [some (.ref a0), none, none, some (.int x3), some (.int x4), some (.int x5)] [] h := by
  refine x_iload d_Model_spells_60 rfl ?_
  refine x_iconst (v := 3) d_Model_spells_62 (by decide) ?_
  refine x_icmp_lt (tgt := 80) d_Model_spells_63 (by decide) (fun hc => ?_) (fun hc => ?_)
  · exact x_le (lv' := [some (.ref a0), none, none, none, some (.int x4), some (.int x5)]) (xw_le_s (xw_le_n (xw_le_n (xw_le_n (xw_le_s (xw_le_s xw_le_e)))))) (kt hc)
  · exact kf hc
theorem s_Model_spells_66 {G : xw_G} {F L bc bs : Nat} {pr : Option Value → xw_A → Prop} {px : String → xw_A → Prop} {h : xw_A} {a0 : Nat} {x3 : Int32} {x4 : Int32} {x5 : Int32} {fs_a0 : List Value} {from_a0 : Int32} (l_a0 : fs_a0.length = 62) (e_a0 : h a0 = some (.inr (11, fs_a0))) (g_a0_from : fs_a0[(30 : Nat)]? = some (.int from_a0)) (k : xw G m_Model_spells F L bc bs pr px 73 [some (.ref a0), none, none, some (.int x3), some (.int x4), some (.int x5)] [.int (from_a0 + 2), .ref a0] h) : xw G m_Model_spells F L bc bs pr px 66 [some (.ref a0), none, none, some (.int x3), some (.int x4), some (.int x5)] [] h := by
  refine x_aload_n d_Model_spells_66 rfl rfl ?_
  refine x_aload_n d_Model_spells_67 rfl rfl ?_
  refine x_get d_Model_spells_68 f_Model_218 e_a0 g_a0_from ?_
  refine x_iconst (v := 2) d_Model_spells_71 (by decide) ?_
  refine x_iadd d_Model_spells_72 ?_
  exact k
theorem s_Model_spells_76 {G : xw_G} {F L bc bs : Nat} {pr : Option Value → xw_A → Prop} {px : String → xw_A → Prop} {h : xw_A} {a0 : Nat} {x3 : Int32} {x4 : Int32} {x5 : Int32} {y0 : Int32}  (kt : ¬ y0 = x3 → xw G m_Model_spells F L bc bs pr px 105 [none, none, none, none, none, none] [] h) (kf : y0 = x3 → xw G m_Model_spells F L bc bs pr px 80 [some (.ref a0), none, none, none, some (.int x4), some (.int x5)] [] h) : xw G m_Model_spells F L bc bs pr px 76 [some (.ref a0), none, none, some (.int x3), some (.int x4), some (.int x5)] [.int y0] h := by
  refine x_iload_n d_Model_spells_76 rfl rfl ?_
  refine x_icmp_ne (tgt := 105) d_Model_spells_77 (by decide) (fun hc => ?_) (fun hc => ?_)
  · exact x_le (lv' := [none, none, none, none, none, none]) (xw_le_n (xw_le_n (xw_le_n (xw_le_n (xw_le_n (xw_le_n xw_le_e)))))) (kt hc)
  · exact x_le (lv' := [some (.ref a0), none, none, none, some (.int x4), some (.int x5)]) (xw_le_s (xw_le_n (xw_le_n (xw_le_n (xw_le_s (xw_le_s xw_le_e)))))) (kf hc)
theorem s_Model_spells_80 {G : xw_G} {F L bc bs : Nat} {pr : Option Value → xw_A → Prop} {px : String → xw_A → Prop} {h : xw_A} {a0 : Nat} {x4 : Int32} {x5 : Int32}  (kt : x5 < 4 → xw G m_Model_spells F L bc bs pr px 101 [none, none, none, none, none, none] [] h) (kf : ¬ x5 < 4 → xw G m_Model_spells F L bc bs pr px 86 [some (.ref a0), none, none, none, some (.int x4), none] [] h) : xw G m_Model_spells F L bc bs pr px 80 [some (.ref a0), none, none, none, some (.int x4), some (.int x5)] [] h := by
  refine x_iload d_Model_spells_80 rfl ?_
  refine x_iconst (v := 4) d_Model_spells_82 (by decide) ?_
  refine x_icmp_lt (tgt := 101) d_Model_spells_83 (by decide) (fun hc => ?_) (fun hc => ?_)
  · exact x_le (lv' := [none, none, none, none, none, none]) (xw_le_n (xw_le_n (xw_le_n (xw_le_n (xw_le_n (xw_le_n xw_le_e)))))) (kt hc)
  · exact x_le (lv' := [some (.ref a0), none, none, none, some (.int x4), none]) (xw_le_s (xw_le_n (xw_le_n (xw_le_n (xw_le_s (xw_le_n xw_le_e)))))) (kf hc)
theorem s_Model_spells_86 {G : xw_G} {F L bc bs : Nat} {pr : Option Value → xw_A → Prop} {px : String → xw_A → Prop} {h : xw_A} {a0 : Nat} {x4 : Int32} {fs_a0 : List Value} {from_a0 : Int32} (l_a0 : fs_a0.length = 62) (e_a0 : h a0 = some (.inr (11, fs_a0))) (g_a0_from : fs_a0[(30 : Nat)]? = some (.int from_a0)) (k : xw G m_Model_spells F L bc bs pr px 93 [some (.ref a0), none, none, none, some (.int x4), none] [.int (from_a0 + 3), .ref a0] h) : xw G m_Model_spells F L bc bs pr px 86 [some (.ref a0), none, none, none, some (.int x4), none] [] h := by
  refine x_aload_n d_Model_spells_86 rfl rfl ?_
  refine x_aload_n d_Model_spells_87 rfl rfl ?_
  refine x_get d_Model_spells_88 f_Model_218 e_a0 g_a0_from ?_
  refine x_iconst (v := 3) d_Model_spells_91 (by decide) ?_
  refine x_iadd d_Model_spells_92 ?_
  exact k
theorem s_Model_spells_96 {G : xw_G} {F L bc bs : Nat} {pr : Option Value → xw_A → Prop} {px : String → xw_A → Prop} {h : xw_A} {x4 : Int32} {y0 : Int32}  (kt : ¬ y0 = x4 → xw G m_Model_spells F L bc bs pr px 105 [none, none, none, none, none, none] [] h) (kf : y0 = x4 → xw G m_Model_spells F L bc bs pr px 101 [none, none, none, none, none, none] [] h) : xw G m_Model_spells F L bc bs pr px 96 [none, none, none, none, some (.int x4), none] [.int y0] h := by
  refine x_iload d_Model_spells_96 rfl ?_
  refine x_icmp_ne (tgt := 105) d_Model_spells_98 (by decide) (fun hc => ?_) (fun hc => ?_)
  · exact x_le (lv' := [none, none, none, none, none, none]) (xw_le_n (xw_le_n (xw_le_n (xw_le_n (xw_le_n (xw_le_n xw_le_e)))))) (kt hc)
  · exact x_le (lv' := [none, none, none, none, none, none]) (xw_le_n (xw_le_n (xw_le_n (xw_le_n (xw_le_n (xw_le_n xw_le_e)))))) (kf hc)
theorem s_Model_spells_101 {G : xw_G} {F L bc bs : Nat} {pr : Option Value → xw_A → Prop} {px : String → xw_A → Prop} {h : xw_A}   (k : xw G m_Model_spells F L bc bs pr px 106 [none, none, none, none, none, none] [.int 1] h) : xw G m_Model_spells F L bc bs pr px 101 [none, none, none, none, none, none] [] h := by
  refine x_iconst (v := 1) d_Model_spells_101 (by decide) ?_
  refine x_goto (tgt := 106) d_Model_spells_102 (by decide) ?_
  exact k
theorem s_Model_spells_105 {G : xw_G} {F L bc bs : Nat} {pr : Option Value → xw_A → Prop} {px : String → xw_A → Prop} {h : xw_A}   (k : xw G m_Model_spells F L bc bs pr px 106 [none, none, none, none, none, none] [.int 0] h) : xw G m_Model_spells F L bc bs pr px 105 [none, none, none, none, none, none] [] h := by
  refine x_iconst (v := 0) d_Model_spells_105 (by decide) ?_
  exact k
theorem s_Model_spells_106 {G : xw_G} {F L bc bs : Nat} {pr : Option Value → xw_A → Prop} {px : String → xw_A → Prop} {h : xw_A} {y0 : Int32} (w_106 : narrow .boolean (.int y0) = .int y0) (kr : pr (some (.int y0)) h) : xw G m_Model_spells F L bc bs pr px 106 [none, none, none, none, none, none] [.int y0] h := by
  exact x_zret d_Model_spells_106 rfl w_106 kr
theorem s_Model_follows_0 {G : xw_G} {F L bc bs : Nat} {pr : Option Value → xw_A → Prop} {px : String → xw_A → Prop} {h : xw_A} {a0 : Nat} {fs_a0 : List Value} {kind_a0 : Int32} (l_a0 : fs_a0.length = 62) (e_a0 : h a0 = some (.inr (11, fs_a0))) (g_a0_kind : fs_a0[(29 : Nat)]? = some (.int kind_a0)) (kt : ¬ kind_a0 = 4 → xw G m_Model_follows F L bc bs pr px 73 [some (.ref a0), none, none] [] h) (kf : kind_a0 = 4 → xw G m_Model_follows F L bc bs pr px 8 [some (.ref a0), none, none] [] h) : xw G m_Model_follows F L bc bs pr px 0 [some (.ref a0), none, none] [] h := by
  refine x_aload_n d_Model_follows_0 rfl rfl ?_
  refine x_get d_Model_follows_1 f_Model_227 e_a0 g_a0_kind ?_
  refine x_iconst (v := 4) d_Model_follows_4 (by decide) ?_
  refine x_icmp_ne (tgt := 73) d_Model_follows_5 (by decide) (fun hc => ?_) (fun hc => ?_)
  · exact kt hc
  · exact kf hc
theorem s_Model_follows_8 {G : xw_G} {F L bc bs : Nat} {pr : Option Value → xw_A → Prop} {px : String → xw_A → Prop} {h : xw_A} {a0 : Nat}  (k : xw G m_Model_follows F L bc bs pr px 10 [some (.ref a0), none, none] [.int 1, .ref a0] h) : xw G m_Model_follows F L bc bs pr px 8 [some (.ref a0), none, none] [] h := by
  refine x_aload_n d_Model_follows_8 rfl rfl ?_
  refine x_iconst (v := 1) d_Model_follows_9 (by decide) ?_
  exact k
theorem s_Model_follows_13 {G : xw_G} {F L bc bs : Nat} {pr : Option Value → xw_A → Prop} {px : String → xw_A → Prop} {h : xw_A} {a0 : Nat} {fs_a0 : List Value} {tops_a0 : Int32} (l_a0 : fs_a0.length = 62) (e_a0 : h a0 = some (.inr (11, fs_a0))) (g_a0_tops : fs_a0[(38 : Nat)]? = some (.int tops_a0)) (kt : ¬ tops_a0 = 0 → xw G m_Model_follows F L bc bs pr px 25 [some (.ref a0), none, none] [.ref a0] h) (kf : tops_a0 = 0 → xw G m_Model_follows F L bc bs pr px 21 [some (.ref a0), none, none] [.ref a0] h) : xw G m_Model_follows F L bc bs pr px 13 [some (.ref a0), none, none] [] h := by
  refine x_aload_n d_Model_follows_13 rfl rfl ?_
  refine x_aload_n d_Model_follows_14 rfl rfl ?_
  refine x_get d_Model_follows_15 f_Model_278 e_a0 g_a0_tops ?_
  refine x_if_ne (tgt := 25) d_Model_follows_18 (by decide) (fun hc => ?_) (fun hc => ?_)
  · exact kt hc
  · exact kf hc
theorem s_Model_follows_21 {G : xw_G} {F L bc bs : Nat} {pr : Option Value → xw_A → Prop} {px : String → xw_A → Prop} {h : xw_A} {a0 : Nat}  (k : xw G m_Model_follows F L bc bs pr px 26 [some (.ref a0), none, none] [.int 1, .ref a0] h) : xw G m_Model_follows F L bc bs pr px 21 [some (.ref a0), none, none] [.ref a0] h := by
  refine x_iconst (v := 1) d_Model_follows_21 (by decide) ?_
  refine x_goto (tgt := 26) d_Model_follows_22 (by decide) ?_
  exact k
theorem s_Model_follows_25 {G : xw_G} {F L bc bs : Nat} {pr : Option Value → xw_A → Prop} {px : String → xw_A → Prop} {h : xw_A} {a0 : Nat}  (k : xw G m_Model_follows F L bc bs pr px 26 [some (.ref a0), none, none] [.int 0, .ref a0] h) : xw G m_Model_follows F L bc bs pr px 25 [some (.ref a0), none, none] [.ref a0] h := by
  refine x_iconst (v := 0) d_Model_follows_25 (by decide) ?_
  exact k
theorem s_Model_follows_26 {G : xw_G} {F L bc bs : Nat} {pr : Option Value → xw_A → Prop} {px : String → xw_A → Prop} {h : xw_A} {a0 : Nat} {y0 : Int32} {fs_a0 : List Value} {from_a0 : Int32} (l_a0 : fs_a0.length = 62) (e_a0 : h a0 = some (.inr (11, fs_a0))) (g_a0_from : fs_a0[(30 : Nat)]? = some (.int from_a0)) (k : xw G m_Model_follows F L bc bs pr px 30 [some (.ref a0), none, none] [.int from_a0, .int y0, .ref a0] h) : xw G m_Model_follows F L bc bs pr px 26 [some (.ref a0), none, none] [.int y0, .ref a0] h := by
  refine x_aload_n d_Model_follows_26 rfl rfl ?_
  refine x_get d_Model_follows_27 f_Model_218 e_a0 g_a0_from ?_
  exact k
theorem s_Model_follows_33 {G : xw_G} {F L bc bs : Nat} {pr : Option Value → xw_A → Prop} {px : String → xw_A → Prop} {h : xw_A} {a0 : Nat} {fs_a0 : List Value} {bad_a0 : Int32} (l_a0 : fs_a0.length = 62) (e_a0 : h a0 = some (.inr (11, fs_a0))) (g_a0_bad : fs_a0[(33 : Nat)]? = some (.int bad_a0)) (kt : bad_a0 < 0 → xw G m_Model_follows F L bc bs pr px 41 [some (.ref a0), none, none] [] h) (kf : ¬ bad_a0 < 0 → xw G m_Model_follows F L bc bs pr px 40 [none, none, none] [] h) : xw G m_Model_follows F L bc bs pr px 33 [some (.ref a0), none, none] [] h := by
  refine x_aload_n d_Model_follows_33 rfl rfl ?_
  refine x_get d_Model_follows_34 f_Model_71 e_a0 g_a0_bad ?_
  refine x_if_lt (tgt := 41) d_Model_follows_37 (by decide) (fun hc => ?_) (fun hc => ?_)
  · exact kt hc
  · exact x_le (lv' := [none, none, none]) (xw_le_n (xw_le_n (xw_le_n xw_le_e))) (kf hc)
theorem s_Model_follows_40 {G : xw_G} {F L bc bs : Nat} {pr : Option Value → xw_A → Prop} {px : String → xw_A → Prop} {h : xw_A}   (kr : pr none h) : xw G m_Model_follows F L bc bs pr px 40 [none, none, none] [] h := by
  exact x_vret d_Model_follows_40 rfl kr
theorem s_Model_follows_41 {G : xw_G} {F L bc bs : Nat} {pr : Option Value → xw_A → Prop} {px : String → xw_A → Prop} {h : xw_A} {a0 : Nat} {fs_a0 : List Value} {tops_a0 : Int32} {masks_a0 : Nat} {n_masks_a0 : Nat} {f_masks_a0 : Nat → Int32} (l_a0 : fs_a0.length = 62) (e_a0 : h a0 = some (.inr (11, fs_a0))) (g_a0_tops : fs_a0[(38 : Nat)]? = some (.int tops_a0)) (g_a0_masks : fs_a0[(52 : Nat)]? = some (.ref masks_a0)) (e_masks_a0 : h masks_a0 = some (.inl (0, n_masks_a0, .inl f_masks_a0))) (i_60 : vp_in (tops_a0 - 1) n_masks_a0) (k : xw G m_Model_follows F L bc bs pr px 65 [some (.ref a0), none, none] [.ref a0] (xw_up (xw_up h a0 (.inr (11, (fs_a0.set 38 (.int (tops_a0 - 1)))))) a0 (.inr (11, ((fs_a0.set 38 (.int (tops_a0 - 1))).set 39 (.int (f_masks_a0 (tops_a0 - 1).toNatClampNeg))))))) : xw G m_Model_follows F L bc bs pr px 41 [some (.ref a0), none, none] [] h := by
  refine x_aload_n d_Model_follows_41 rfl rfl ?_
  refine x_dup d_Model_follows_42 rfl ?_
  refine x_get d_Model_follows_43 f_Model_278 e_a0 g_a0_tops ?_
  refine x_iconst (v := 1) d_Model_follows_46 (by decide) ?_
  refine x_isub d_Model_follows_47 ?_
  refine x_put (ty := .int) d_Model_follows_48 f_Model_278 fw_Model_38.1 fw_Model_38.2 rfl rfl (by simp [l_a0]) e_a0 ?_
  show xw G m_Model_follows F L bc bs pr px 51 [some (.ref a0), none, none] [] (xw_up h a0 (.inr (11, (fs_a0.set 38 (.int (tops_a0 - 1))))))
  refine x_aload_n d_Model_follows_51 rfl rfl ?_
  refine x_aload_n d_Model_follows_52 rfl rfl ?_
  refine x_get d_Model_follows_53 f_Model_107 (xw_up_s _ _ _) (xw_gn (by decide) g_a0_masks) ?_
  refine x_aload_n d_Model_follows_56 rfl rfl ?_
  refine x_get d_Model_follows_57 f_Model_278 (xw_up_s _ _ _) (xw_gs (by simp [l_a0])) ?_
  refine x_iald d_Model_follows_60 ((xw_up_n _ _ (xw_ne e_masks_a0 e_a0 (by simp))).trans e_masks_a0) i_60 ?_
  refine x_put (ty := .int) d_Model_follows_61 f_Model_266 fw_Model_39.1 fw_Model_39.2 rfl rfl (by simp [l_a0]) (xw_up_s _ _ _) ?_
  show xw G m_Model_follows F L bc bs pr px 64 [some (.ref a0), none, none] [] (xw_up (xw_up h a0 (.inr (11, (fs_a0.set 38 (.int (tops_a0 - 1)))))) a0 (.inr (11, ((fs_a0.set 38 (.int (tops_a0 - 1))).set 39 (.int (f_masks_a0 (tops_a0 - 1).toNatClampNeg))))))
  refine x_aload_n d_Model_follows_64 rfl rfl ?_
  exact k
theorem s_Model_follows_68 {G : xw_G} {F L bc bs : Nat} {pr : Option Value → xw_A → Prop} {px : String → xw_A → Prop} {h : xw_A} {a0 : Nat}  (k : xw G m_Model_follows F L bc bs pr px 69 [some (.ref a0), none, none] [.ref a0] h) : xw G m_Model_follows F L bc bs pr px 68 [some (.ref a0), none, none] [] h := by
  refine x_aload_n d_Model_follows_68 rfl rfl ?_
  exact k
theorem s_Model_follows_72 {G : xw_G} {F L bc bs : Nat} {pr : Option Value → xw_A → Prop} {px : String → xw_A → Prop} {h : xw_A}   (kr : pr none h) : xw G m_Model_follows F L bc bs pr px 72 [none, none, none] [] h := by
  exact x_vret d_Model_follows_72 rfl kr
theorem s_Model_follows_73 {G : xw_G} {F L bc bs : Nat} {pr : Option Value → xw_A → Prop} {px : String → xw_A → Prop} {h : xw_A} {a0 : Nat} {fs_a0 : List Value} {kind_a0 : Int32} (l_a0 : fs_a0.length = 62) (e_a0 : h a0 = some (.inr (11, fs_a0))) (g_a0_kind : fs_a0[(29 : Nat)]? = some (.int kind_a0)) (kt : ¬ kind_a0 = 12 → xw G m_Model_follows F L bc bs pr px 86 [some (.ref a0), none, none] [] h) (kf : kind_a0 = 12 → xw G m_Model_follows F L bc bs pr px 82 [some (.ref a0), none, none] [] h) : xw G m_Model_follows F L bc bs pr px 73 [some (.ref a0), none, none] [] h := by
  refine x_aload_n d_Model_follows_73 rfl rfl ?_
  refine x_get d_Model_follows_74 f_Model_227 e_a0 g_a0_kind ?_
  refine x_bipush (v := 12) d_Model_follows_77 (by decide) ?_
  refine x_icmp_ne (tgt := 86) d_Model_follows_79 (by decide) (fun hc => ?_) (fun hc => ?_)
  · exact kt hc
  · exact kf hc
theorem s_Model_follows_82 {G : xw_G} {F L bc bs : Nat} {pr : Option Value → xw_A → Prop} {px : String → xw_A → Prop} {h : xw_A} {a0 : Nat}  (k : xw G m_Model_follows F L bc bs pr px 113 [some (.ref a0), none, none] [.int 1] h) : xw G m_Model_follows F L bc bs pr px 82 [some (.ref a0), none, none] [] h := by
  refine x_iconst (v := 1) d_Model_follows_82 (by decide) ?_
  refine x_goto (tgt := 113) d_Model_follows_83 (by decide) ?_
  exact k
theorem s_Model_follows_86 {G : xw_G} {F L bc bs : Nat} {pr : Option Value → xw_A → Prop} {px : String → xw_A → Prop} {h : xw_A} {a0 : Nat} {fs_a0 : List Value} {kind_a0 : Int32} (l_a0 : fs_a0.length = 62) (e_a0 : h a0 = some (.inr (11, fs_a0))) (g_a0_kind : fs_a0[(29 : Nat)]? = some (.int kind_a0)) (kt : ¬ kind_a0 = 11 → xw G m_Model_follows F L bc bs pr px 99 [some (.ref a0), none, none] [] h) (kf : kind_a0 = 11 → xw G m_Model_follows F L bc bs pr px 95 [some (.ref a0), none, none] [] h) : xw G m_Model_follows F L bc bs pr px 86 [some (.ref a0), none, none] [] h := by
  refine x_aload_n d_Model_follows_86 rfl rfl ?_
  refine x_get d_Model_follows_87 f_Model_227 e_a0 g_a0_kind ?_
  refine x_bipush (v := 11) d_Model_follows_90 (by decide) ?_
  refine x_icmp_ne (tgt := 99) d_Model_follows_92 (by decide) (fun hc => ?_) (fun hc => ?_)
  · exact kt hc
  · exact kf hc
theorem s_Model_follows_95 {G : xw_G} {F L bc bs : Nat} {pr : Option Value → xw_A → Prop} {px : String → xw_A → Prop} {h : xw_A} {a0 : Nat}  (k : xw G m_Model_follows F L bc bs pr px 113 [some (.ref a0), none, none] [.int 2] h) : xw G m_Model_follows F L bc bs pr px 95 [some (.ref a0), none, none] [] h := by
  refine x_iconst (v := 2) d_Model_follows_95 (by decide) ?_
  refine x_goto (tgt := 113) d_Model_follows_96 (by decide) ?_
  exact k
theorem s_Model_follows_99 {G : xw_G} {F L bc bs : Nat} {pr : Option Value → xw_A → Prop} {px : String → xw_A → Prop} {h : xw_A} {a0 : Nat} {fs_a0 : List Value} {kind_a0 : Int32} (l_a0 : fs_a0.length = 62) (e_a0 : h a0 = some (.inr (11, fs_a0))) (g_a0_kind : fs_a0[(29 : Nat)]? = some (.int kind_a0)) (kt : ¬ kind_a0 = 13 → xw G m_Model_follows F L bc bs pr px 112 [some (.ref a0), none, none] [] h) (kf : kind_a0 = 13 → xw G m_Model_follows F L bc bs pr px 108 [some (.ref a0), none, none] [] h) : xw G m_Model_follows F L bc bs pr px 99 [some (.ref a0), none, none] [] h := by
  refine x_aload_n d_Model_follows_99 rfl rfl ?_
  refine x_get d_Model_follows_100 f_Model_227 e_a0 g_a0_kind ?_
  refine x_bipush (v := 13) d_Model_follows_103 (by decide) ?_
  refine x_icmp_ne (tgt := 112) d_Model_follows_105 (by decide) (fun hc => ?_) (fun hc => ?_)
  · exact kt hc
  · exact kf hc
theorem s_Model_follows_108 {G : xw_G} {F L bc bs : Nat} {pr : Option Value → xw_A → Prop} {px : String → xw_A → Prop} {h : xw_A} {a0 : Nat}  (k : xw G m_Model_follows F L bc bs pr px 113 [some (.ref a0), none, none] [.int 3] h) : xw G m_Model_follows F L bc bs pr px 108 [some (.ref a0), none, none] [] h := by
  refine x_iconst (v := 3) d_Model_follows_108 (by decide) ?_
  refine x_goto (tgt := 113) d_Model_follows_109 (by decide) ?_
  exact k
theorem s_Model_follows_112 {G : xw_G} {F L bc bs : Nat} {pr : Option Value → xw_A → Prop} {px : String → xw_A → Prop} {h : xw_A} {a0 : Nat}  (k : xw G m_Model_follows F L bc bs pr px 113 [some (.ref a0), none, none] [.int 4] h) : xw G m_Model_follows F L bc bs pr px 112 [some (.ref a0), none, none] [] h := by
  refine x_iconst (v := 4) d_Model_follows_112 (by decide) ?_
  exact k
theorem s_Model_follows_113 {G : xw_G} {F L bc bs : Nat} {pr : Option Value → xw_A → Prop} {px : String → xw_A → Prop} {h : xw_A} {a0 : Nat} {y0 : Int32} {fs_a0 : List Value} {kind_a0 : Int32} (l_a0 : fs_a0.length = 62) (e_a0 : h a0 = some (.inr (11, fs_a0))) (g_a0_kind : fs_a0[(29 : Nat)]? = some (.int kind_a0)) (kt : kind_a0 = 3 → xw G m_Model_follows F L bc bs pr px 165 [some (.ref a0), some (.int y0), none] [] h) (kf : ¬ kind_a0 = 3 → xw G m_Model_follows F L bc bs pr px 122 [some (.ref a0), some (.int y0), none] [] h) : xw G m_Model_follows F L bc bs pr px 113 [some (.ref a0), none, none] [.int y0] h := by
  refine x_istore_n d_Model_follows_113 rfl (by decide) rfl ?_
  show xw G m_Model_follows F L bc bs pr px 114 [some (.ref a0), some (.int y0), none] [] h
  refine x_aload_n d_Model_follows_114 rfl rfl ?_
  refine x_get d_Model_follows_115 f_Model_227 e_a0 g_a0_kind ?_
  refine x_iconst (v := 3) d_Model_follows_118 (by decide) ?_
  refine x_icmp_eq (tgt := 165) d_Model_follows_119 (by decide) (fun hc => ?_) (fun hc => ?_)
  · exact kt hc
  · exact kf hc
theorem s_Model_follows_122 {G : xw_G} {F L bc bs : Nat} {pr : Option Value → xw_A → Prop} {px : String → xw_A → Prop} {h : xw_A} {a0 : Nat} {x1 : Int32} {fs_a0 : List Value} {kind_a0 : Int32} (l_a0 : fs_a0.length = 62) (e_a0 : h a0 = some (.inr (11, fs_a0))) (g_a0_kind : fs_a0[(29 : Nat)]? = some (.int kind_a0)) (kt : kind_a0 = 6 → xw G m_Model_follows F L bc bs pr px 165 [some (.ref a0), some (.int x1), none] [] h) (kf : ¬ kind_a0 = 6 → xw G m_Model_follows F L bc bs pr px 131 [some (.ref a0), some (.int x1), none] [] h) : xw G m_Model_follows F L bc bs pr px 122 [some (.ref a0), some (.int x1), none] [] h := by
  refine x_aload_n d_Model_follows_122 rfl rfl ?_
  refine x_get d_Model_follows_123 f_Model_227 e_a0 g_a0_kind ?_
  refine x_bipush (v := 6) d_Model_follows_126 (by decide) ?_
  refine x_icmp_eq (tgt := 165) d_Model_follows_128 (by decide) (fun hc => ?_) (fun hc => ?_)
  · exact kt hc
  · exact kf hc
theorem s_Model_follows_131 {G : xw_G} {F L bc bs : Nat} {pr : Option Value → xw_A → Prop} {px : String → xw_A → Prop} {h : xw_A} {a0 : Nat} {x1 : Int32} {fs_a0 : List Value} {kind_a0 : Int32} (l_a0 : fs_a0.length = 62) (e_a0 : h a0 = some (.inr (11, fs_a0))) (g_a0_kind : fs_a0[(29 : Nat)]? = some (.int kind_a0)) (kt : kind_a0 = 7 → xw G m_Model_follows F L bc bs pr px 165 [some (.ref a0), some (.int x1), none] [] h) (kf : ¬ kind_a0 = 7 → xw G m_Model_follows F L bc bs pr px 140 [some (.ref a0), some (.int x1), none] [] h) : xw G m_Model_follows F L bc bs pr px 131 [some (.ref a0), some (.int x1), none] [] h := by
  refine x_aload_n d_Model_follows_131 rfl rfl ?_
  refine x_get d_Model_follows_132 f_Model_227 e_a0 g_a0_kind ?_
  refine x_bipush (v := 7) d_Model_follows_135 (by decide) ?_
  refine x_icmp_eq (tgt := 165) d_Model_follows_137 (by decide) (fun hc => ?_) (fun hc => ?_)
  · exact kt hc
  · exact kf hc
theorem s_Model_follows_140 {G : xw_G} {F L bc bs : Nat} {pr : Option Value → xw_A → Prop} {px : String → xw_A → Prop} {h : xw_A} {a0 : Nat} {x1 : Int32} {fs_a0 : List Value} {kind_a0 : Int32} (l_a0 : fs_a0.length = 62) (e_a0 : h a0 = some (.inr (11, fs_a0))) (g_a0_kind : fs_a0[(29 : Nat)]? = some (.int kind_a0)) (kt : kind_a0 = 14 → xw G m_Model_follows F L bc bs pr px 165 [some (.ref a0), some (.int x1), none] [] h) (kf : ¬ kind_a0 = 14 → xw G m_Model_follows F L bc bs pr px 149 [some (.ref a0), some (.int x1), none] [] h) : xw G m_Model_follows F L bc bs pr px 140 [some (.ref a0), some (.int x1), none] [] h := by
  refine x_aload_n d_Model_follows_140 rfl rfl ?_
  refine x_get d_Model_follows_141 f_Model_227 e_a0 g_a0_kind ?_
  refine x_bipush (v := 14) d_Model_follows_144 (by decide) ?_
  refine x_icmp_eq (tgt := 165) d_Model_follows_146 (by decide) (fun hc => ?_) (fun hc => ?_)
  · exact kt hc
  · exact kf hc
theorem s_Model_follows_149 {G : xw_G} {F L bc bs : Nat} {pr : Option Value → xw_A → Prop} {px : String → xw_A → Prop} {h : xw_A} {a0 : Nat} {x1 : Int32} {fs_a0 : List Value} {kind_a0 : Int32} (l_a0 : fs_a0.length = 62) (e_a0 : h a0 = some (.inr (11, fs_a0))) (g_a0_kind : fs_a0[(29 : Nat)]? = some (.int kind_a0)) (kt : kind_a0 = 1 → xw G m_Model_follows F L bc bs pr px 165 [some (.ref a0), some (.int x1), none] [] h) (kf : ¬ kind_a0 = 1 → xw G m_Model_follows F L bc bs pr px 157 [some (.ref a0), some (.int x1), none] [] h) : xw G m_Model_follows F L bc bs pr px 149 [some (.ref a0), some (.int x1), none] [] h := by
  refine x_aload_n d_Model_follows_149 rfl rfl ?_
  refine x_get d_Model_follows_150 f_Model_227 e_a0 g_a0_kind ?_
  refine x_iconst (v := 1) d_Model_follows_153 (by decide) ?_
  refine x_icmp_eq (tgt := 165) d_Model_follows_154 (by decide) (fun hc => ?_) (fun hc => ?_)
  · exact kt hc
  · exact kf hc
theorem s_Model_follows_157 {G : xw_G} {F L bc bs : Nat} {pr : Option Value → xw_A → Prop} {px : String → xw_A → Prop} {h : xw_A} {a0 : Nat} {x1 : Int32} {fs_a0 : List Value} {kind_a0 : Int32} (l_a0 : fs_a0.length = 62) (e_a0 : h a0 = some (.inr (11, fs_a0))) (g_a0_kind : fs_a0[(29 : Nat)]? = some (.int kind_a0)) (kt : ¬ kind_a0 = 2 → xw G m_Model_follows F L bc bs pr px 169 [some (.ref a0), some (.int x1), none] [] h) (kf : kind_a0 = 2 → xw G m_Model_follows F L bc bs pr px 165 [some (.ref a0), some (.int x1), none] [] h) : xw G m_Model_follows F L bc bs pr px 157 [some (.ref a0), some (.int x1), none] [] h := by
  refine x_aload_n d_Model_follows_157 rfl rfl ?_
  refine x_get d_Model_follows_158 f_Model_227 e_a0 g_a0_kind ?_
  refine x_iconst (v := 2) d_Model_follows_161 (by decide) ?_
  refine x_icmp_ne (tgt := 169) d_Model_follows_162 (by decide) (fun hc => ?_) (fun hc => ?_)
  · exact kt hc
  · exact kf hc
theorem s_Model_follows_165 {G : xw_G} {F L bc bs : Nat} {pr : Option Value → xw_A → Prop} {px : String → xw_A → Prop} {h : xw_A} {a0 : Nat} {x1 : Int32}  (k : xw G m_Model_follows F L bc bs pr px 170 [some (.ref a0), some (.int x1), none] [.int 1] h) : xw G m_Model_follows F L bc bs pr px 165 [some (.ref a0), some (.int x1), none] [] h := by
  refine x_iconst (v := 1) d_Model_follows_165 (by decide) ?_
  refine x_goto (tgt := 170) d_Model_follows_166 (by decide) ?_
  exact k
theorem s_Model_follows_169 {G : xw_G} {F L bc bs : Nat} {pr : Option Value → xw_A → Prop} {px : String → xw_A → Prop} {h : xw_A} {a0 : Nat} {x1 : Int32}  (k : xw G m_Model_follows F L bc bs pr px 170 [some (.ref a0), some (.int x1), none] [.int 0] h) : xw G m_Model_follows F L bc bs pr px 169 [some (.ref a0), some (.int x1), none] [] h := by
  refine x_iconst (v := 0) d_Model_follows_169 (by decide) ?_
  exact k
theorem s_Model_follows_170 {G : xw_G} {F L bc bs : Nat} {pr : Option Value → xw_A → Prop} {px : String → xw_A → Prop} {h : xw_A} {a0 : Nat} {x1 : Int32} {y0 : Int32}  (kt : ¬ x1 = 4 → xw G m_Model_follows F L bc bs pr px 185 [some (.ref a0), some (.int x1), none] [.ref a0] h) (kf : x1 = 4 → xw G m_Model_follows F L bc bs pr px 177 [some (.ref a0), some (.int x1), some (.int y0)] [.ref a0] h) : xw G m_Model_follows F L bc bs pr px 170 [some (.ref a0), some (.int x1), none] [.int y0] h := by
  refine x_istore_n d_Model_follows_170 rfl (by decide) rfl ?_
  show xw G m_Model_follows F L bc bs pr px 171 [some (.ref a0), some (.int x1), some (.int y0)] [] h
  refine x_aload_n d_Model_follows_171 rfl rfl ?_
  refine x_iload_n d_Model_follows_172 rfl rfl ?_
  refine x_iconst (v := 4) d_Model_follows_173 (by decide) ?_
  refine x_icmp_ne (tgt := 185) d_Model_follows_174 (by decide) (fun hc => ?_) (fun hc => ?_)
  · exact x_le (lv' := [some (.ref a0), some (.int x1), none]) (xw_le_s (xw_le_s (xw_le_n xw_le_e))) (kt hc)
  · exact kf hc
theorem s_Model_follows_177 {G : xw_G} {F L bc bs : Nat} {pr : Option Value → xw_A → Prop} {px : String → xw_A → Prop} {h : xw_A} {a0 : Nat} {x1 : Int32} {x2 : Int32}  (kt : ¬ x2 = 0 → xw G m_Model_follows F L bc bs pr px 185 [some (.ref a0), some (.int x1), none] [.ref a0] h) (kf : x2 = 0 → xw G m_Model_follows F L bc bs pr px 181 [some (.ref a0), some (.int x1), none] [.ref a0] h) : xw G m_Model_follows F L bc bs pr px 177 [some (.ref a0), some (.int x1), some (.int x2)] [.ref a0] h := by
  refine x_iload_n d_Model_follows_177 rfl rfl ?_
  refine x_if_ne (tgt := 185) d_Model_follows_178 (by decide) (fun hc => ?_) (fun hc => ?_)
  · exact x_le (lv' := [some (.ref a0), some (.int x1), none]) (xw_le_s (xw_le_s (xw_le_n xw_le_e))) (kt hc)
  · exact x_le (lv' := [some (.ref a0), some (.int x1), none]) (xw_le_s (xw_le_s (xw_le_n xw_le_e))) (kf hc)
theorem s_Model_follows_181 {G : xw_G} {F L bc bs : Nat} {pr : Option Value → xw_A → Prop} {px : String → xw_A → Prop} {h : xw_A} {a0 : Nat} {x1 : Int32}  (k : xw G m_Model_follows F L bc bs pr px 186 [some (.ref a0), some (.int x1), none] [.int 1, .ref a0] h) : xw G m_Model_follows F L bc bs pr px 181 [some (.ref a0), some (.int x1), none] [.ref a0] h := by
  refine x_iconst (v := 1) d_Model_follows_181 (by decide) ?_
  refine x_goto (tgt := 186) d_Model_follows_182 (by decide) ?_
  exact k
theorem s_Model_follows_185 {G : xw_G} {F L bc bs : Nat} {pr : Option Value → xw_A → Prop} {px : String → xw_A → Prop} {h : xw_A} {a0 : Nat} {x1 : Int32}  (k : xw G m_Model_follows F L bc bs pr px 186 [some (.ref a0), some (.int x1), none] [.int 0, .ref a0] h) : xw G m_Model_follows F L bc bs pr px 185 [some (.ref a0), some (.int x1), none] [.ref a0] h := by
  refine x_iconst (v := 0) d_Model_follows_185 (by decide) ?_
  exact k
theorem s_Model_follows_186 {G : xw_G} {F L bc bs : Nat} {pr : Option Value → xw_A → Prop} {px : String → xw_A → Prop} {h : xw_A} {a0 : Nat} {x1 : Int32} {y0 : Int32} {fs_a0 : List Value} {from_a0 : Int32} (l_a0 : fs_a0.length = 62) (e_a0 : h a0 = some (.inr (11, fs_a0))) (g_a0_from : fs_a0[(30 : Nat)]? = some (.int from_a0)) (k : xw G m_Model_follows F L bc bs pr px 190 [some (.ref a0), some (.int x1), none] [.int from_a0, .int y0, .ref a0] h) : xw G m_Model_follows F L bc bs pr px 186 [some (.ref a0), some (.int x1), none] [.int y0, .ref a0] h := by
  refine x_aload_n d_Model_follows_186 rfl rfl ?_
  refine x_get d_Model_follows_187 f_Model_218 e_a0 g_a0_from ?_
  exact k
theorem s_Model_follows_193 {G : xw_G} {F L bc bs : Nat} {pr : Option Value → xw_A → Prop} {px : String → xw_A → Prop} {h : xw_A} {a0 : Nat} {x1 : Int32} {fs_a0 : List Value} {bad_a0 : Int32} (l_a0 : fs_a0.length = 62) (e_a0 : h a0 = some (.inr (11, fs_a0))) (g_a0_bad : fs_a0[(33 : Nat)]? = some (.int bad_a0)) (kt : bad_a0 < 0 → xw G m_Model_follows F L bc bs pr px 201 [some (.ref a0), some (.int x1), none] [] h) (kf : ¬ bad_a0 < 0 → xw G m_Model_follows F L bc bs pr px 200 [none, none, none] [] h) : xw G m_Model_follows F L bc bs pr px 193 [some (.ref a0), some (.int x1), none] [] h := by
  refine x_aload_n d_Model_follows_193 rfl rfl ?_
  refine x_get d_Model_follows_194 f_Model_71 e_a0 g_a0_bad ?_
  refine x_if_lt (tgt := 201) d_Model_follows_197 (by decide) (fun hc => ?_) (fun hc => ?_)
  · exact kt hc
  · exact x_le (lv' := [none, none, none]) (xw_le_n (xw_le_n (xw_le_n xw_le_e))) (kf hc)
theorem s_Model_follows_200 {G : xw_G} {F L bc bs : Nat} {pr : Option Value → xw_A → Prop} {px : String → xw_A → Prop} {h : xw_A}   (kr : pr none h) : xw G m_Model_follows F L bc bs pr px 200 [none, none, none] [] h := by
  exact x_vret d_Model_follows_200 rfl kr
theorem s_Model_follows_201 {G : xw_G} {F L bc bs : Nat} {pr : Option Value → xw_A → Prop} {px : String → xw_A → Prop} {h : xw_A} {a0 : Nat} {x1 : Int32}  (k : xw G m_Model_follows F L bc bs pr px 203 [some (.ref a0), some (.int x1), none] [.int x1, .ref a0] h) : xw G m_Model_follows F L bc bs pr px 201 [some (.ref a0), some (.int x1), none] [] h := by
  refine x_aload_n d_Model_follows_201 rfl rfl ?_
  refine x_iload_n d_Model_follows_202 rfl rfl ?_
  exact k
theorem s_Model_follows_206 {G : xw_G} {F L bc bs : Nat} {pr : Option Value → xw_A → Prop} {px : String → xw_A → Prop} {h : xw_A} {a0 : Nat} {x1 : Int32}  (kt : x1 = 4 → xw G m_Model_follows F L bc bs pr px 215 [some (.ref a0), none, none] [] h) (kf : ¬ x1 = 4 → xw G m_Model_follows F L bc bs pr px 211 [some (.ref a0), none, none] [] h) : xw G m_Model_follows F L bc bs pr px 206 [some (.ref a0), some (.int x1), none] [] h := by
  refine x_iload_n d_Model_follows_206 rfl rfl ?_
  refine x_iconst (v := 4) d_Model_follows_207 (by decide) ?_
  refine x_icmp_eq (tgt := 215) d_Model_follows_208 (by decide) (fun hc => ?_) (fun hc => ?_)
  · exact x_le (lv' := [some (.ref a0), none, none]) (xw_le_s (xw_le_n (xw_le_n xw_le_e))) (kt hc)
  · exact x_le (lv' := [some (.ref a0), none, none]) (xw_le_s (xw_le_n (xw_le_n xw_le_e))) (kf hc)
theorem s_Model_follows_211 {G : xw_G} {F L bc bs : Nat} {pr : Option Value → xw_A → Prop} {px : String → xw_A → Prop} {h : xw_A} {a0 : Nat}  (k : xw G m_Model_follows F L bc bs pr px 212 [some (.ref a0), none, none] [.ref a0] h) : xw G m_Model_follows F L bc bs pr px 211 [some (.ref a0), none, none] [] h := by
  refine x_aload_n d_Model_follows_211 rfl rfl ?_
  exact k
theorem s_Model_follows_215 {G : xw_G} {F L bc bs : Nat} {pr : Option Value → xw_A → Prop} {px : String → xw_A → Prop} {h : xw_A} {a0 : Nat} {fs_a0 : List Value} (l_a0 : fs_a0.length = 62) (e_a0 : h a0 = some (.inr (11, fs_a0))) (kr : pr none (xw_up h a0 (.inr (11, (fs_a0.set 61 (.int 0)))))) : xw G m_Model_follows F L bc bs pr px 215 [some (.ref a0), none, none] [] h := by
  refine x_aload_n d_Model_follows_215 rfl rfl ?_
  refine x_iconst (v := 0) d_Model_follows_216 (by decide) ?_
  refine x_put (ty := .boolean) d_Model_follows_217 f_Model_297 fw_Model_61.1 fw_Model_61.2 rfl rfl (by simp [l_a0]) e_a0 ?_
  show xw G m_Model_follows F L bc bs pr px 220 [some (.ref a0), none, none] [] (xw_up h a0 (.inr (11, (fs_a0.set 61 (.int 0)))))
  exact x_vret d_Model_follows_220 rfl kr
theorem s_Model_reduces_0 {G : xw_G} {F L bc bs : Nat} {pr : Option Value → xw_A → Prop} {px : String → xw_A → Prop} {h : xw_A} {a0 : Nat} {x1 : Int32} {fs_a0 : List Value} {tops_a0 : Int32} (l_a0 : fs_a0.length = 62) (e_a0 : h a0 = some (.inr (11, fs_a0))) (g_a0_tops : fs_a0[(38 : Nat)]? = some (.int tops_a0)) (kt : tops_a0 ≤ 0 → xw G m_Model_reduces F L bc bs pr px 79 [none, none] [] h) (kf : ¬ tops_a0 ≤ 0 → xw G m_Model_reduces F L bc bs pr px 7 [some (.ref a0), some (.int x1)] [] h) : xw G m_Model_reduces F L bc bs pr px 0 [some (.ref a0), some (.int x1)] [] h := by
  refine x_aload_n d_Model_reduces_0 rfl rfl ?_
  refine x_get d_Model_reduces_1 f_Model_278 e_a0 g_a0_tops ?_
  refine x_if_le (tgt := 79) d_Model_reduces_4 (by decide) (fun hc => ?_) (fun hc => ?_)
  · exact x_le (lv' := [none, none]) (xw_le_n (xw_le_n xw_le_e)) (kt hc)
  · exact kf hc
theorem s_Model_reduces_7 {G : xw_G} {F L bc bs : Nat} {pr : Option Value → xw_A → Prop} {px : String → xw_A → Prop} {h : xw_A} {a0 : Nat} {x1 : Int32} {fs_a0 : List Value} {top_a0 : Nat} {tops_a0 : Int32} {n_top_a0 : Nat} {f_top_a0 : Nat → Int32} (l_a0 : fs_a0.length = 62) (e_a0 : h a0 = some (.inr (11, fs_a0))) (g_a0_top : fs_a0[(51 : Nat)]? = some (.ref top_a0)) (g_a0_tops : fs_a0[(38 : Nat)]? = some (.int tops_a0)) (e_top_a0 : h top_a0 = some (.inl (0, n_top_a0, .inl f_top_a0))) (i_17 : vp_in (tops_a0 - 1) n_top_a0) (kt : 5 ≤ (f_top_a0 (tops_a0 - 1).toNatClampNeg) → xw G m_Model_reduces F L bc bs pr px 79 [none, none] [] h) (kf : ¬ 5 ≤ (f_top_a0 (tops_a0 - 1).toNatClampNeg) → xw G m_Model_reduces F L bc bs pr px 22 [some (.ref a0), some (.int x1)] [] h) : xw G m_Model_reduces F L bc bs pr px 7 [some (.ref a0), some (.int x1)] [] h := by
  refine x_aload_n d_Model_reduces_7 rfl rfl ?_
  refine x_get d_Model_reduces_8 f_Model_104 e_a0 g_a0_top ?_
  refine x_aload_n d_Model_reduces_11 rfl rfl ?_
  refine x_get d_Model_reduces_12 f_Model_278 e_a0 g_a0_tops ?_
  refine x_iconst (v := 1) d_Model_reduces_15 (by decide) ?_
  refine x_isub d_Model_reduces_16 ?_
  refine x_iald d_Model_reduces_17 e_top_a0 i_17 ?_
  refine x_iconst (v := 5) d_Model_reduces_18 (by decide) ?_
  refine x_icmp_ge (tgt := 79) d_Model_reduces_19 (by decide) (fun hc => ?_) (fun hc => ?_)
  · exact x_le (lv' := [none, none]) (xw_le_n (xw_le_n xw_le_e)) (kt hc)
  · exact kf hc
theorem s_Model_reduces_22 {G : xw_G} {F L bc bs : Nat} {pr : Option Value → xw_A → Prop} {px : String → xw_A → Prop} {h : xw_A} {a0 : Nat} {x1 : Int32} {fs_a0 : List Value} {top_a0 : Nat} {tops_a0 : Int32} {n_top_a0 : Nat} {f_top_a0 : Nat → Int32} (l_a0 : fs_a0.length = 62) (e_a0 : h a0 = some (.inr (11, fs_a0))) (g_a0_top : fs_a0[(51 : Nat)]? = some (.ref top_a0)) (g_a0_tops : fs_a0[(38 : Nat)]? = some (.int tops_a0)) (e_top_a0 : h top_a0 = some (.inl (0, n_top_a0, .inl f_top_a0))) (i_32 : vp_in (tops_a0 - 1) n_top_a0) (kt : (f_top_a0 (tops_a0 - 1).toNatClampNeg) < x1 → xw G m_Model_reduces F L bc bs pr px 79 [none, none] [] h) (kf : ¬ (f_top_a0 (tops_a0 - 1).toNatClampNeg) < x1 → xw G m_Model_reduces F L bc bs pr px 37 [some (.ref a0), some (.int x1)] [] h) : xw G m_Model_reduces F L bc bs pr px 22 [some (.ref a0), some (.int x1)] [] h := by
  refine x_aload_n d_Model_reduces_22 rfl rfl ?_
  refine x_get d_Model_reduces_23 f_Model_104 e_a0 g_a0_top ?_
  refine x_aload_n d_Model_reduces_26 rfl rfl ?_
  refine x_get d_Model_reduces_27 f_Model_278 e_a0 g_a0_tops ?_
  refine x_iconst (v := 1) d_Model_reduces_30 (by decide) ?_
  refine x_isub d_Model_reduces_31 ?_
  refine x_iald d_Model_reduces_32 e_top_a0 i_32 ?_
  refine x_iload_n d_Model_reduces_33 rfl rfl ?_
  refine x_icmp_lt (tgt := 79) d_Model_reduces_34 (by decide) (fun hc => ?_) (fun hc => ?_)
  · exact x_le (lv' := [none, none]) (xw_le_n (xw_le_n xw_le_e)) (kt hc)
  · exact kf hc
theorem s_Model_reduces_37 {G : xw_G} {F L bc bs : Nat} {pr : Option Value → xw_A → Prop} {px : String → xw_A → Prop} {h : xw_A} {a0 : Nat} {x1 : Int32} {fs_a0 : List Value} {tops_a0 : Int32} {out_a0 : Nat} {outs_a0 : Int32} {top_a0 : Nat} {n_top_a0 : Nat} {f_top_a0 : Nat → Int32} {n_out_a0 : Nat} {f_out_a0 : Nat → Int32} (l_a0 : fs_a0.length = 62) (e_a0 : h a0 = some (.inr (11, fs_a0))) (g_a0_tops : fs_a0[(38 : Nat)]? = some (.int tops_a0)) (g_a0_out : fs_a0[(50 : Nat)]? = some (.ref out_a0)) (g_a0_outs : fs_a0[(37 : Nat)]? = some (.int outs_a0)) (g_a0_top : fs_a0[(51 : Nat)]? = some (.ref top_a0)) (e_top_a0 : h top_a0 = some (.inl (0, n_top_a0, .inl f_top_a0))) (i_63 : vp_in (tops_a0 - 1) n_top_a0) (e_out_a0 : h out_a0 = some (.inl (0, n_out_a0, .inl f_out_a0))) (i_65 : vp_in outs_a0 n_out_a0) (k : xw G m_Model_reduces F L bc bs pr px 0 [some (.ref a0), some (.int x1)] [] (xw_up (xw_up (xw_up h a0 (.inr (11, (fs_a0.set 38 (.int (tops_a0 - 1)))))) out_a0 (.inl (0, n_out_a0, .inl (upd f_out_a0 (outs_a0).toNatClampNeg (-(f_top_a0 (tops_a0 - 1).toNatClampNeg)))))) a0 (.inr (11, ((fs_a0.set 38 (.int (tops_a0 - 1))).set 37 (.int (outs_a0 + 1))))))) : xw G m_Model_reduces F L bc bs pr px 37 [some (.ref a0), some (.int x1)] [] h := by
  refine x_aload_n d_Model_reduces_37 rfl rfl ?_
  refine x_dup d_Model_reduces_38 rfl ?_
  refine x_get d_Model_reduces_39 f_Model_278 e_a0 g_a0_tops ?_
  refine x_iconst (v := 1) d_Model_reduces_42 (by decide) ?_
  refine x_isub d_Model_reduces_43 ?_
  refine x_put (ty := .int) d_Model_reduces_44 f_Model_278 fw_Model_38.1 fw_Model_38.2 rfl rfl (by simp [l_a0]) e_a0 ?_
  show xw G m_Model_reduces F L bc bs pr px 47 [some (.ref a0), some (.int x1)] [] (xw_up h a0 (.inr (11, (fs_a0.set 38 (.int (tops_a0 - 1))))))
  refine x_aload_n d_Model_reduces_47 rfl rfl ?_
  refine x_get d_Model_reduces_48 f_Model_101 (xw_up_s _ _ _) (xw_gn (by decide) g_a0_out) ?_
  refine x_aload_n d_Model_reduces_51 rfl rfl ?_
  refine x_get d_Model_reduces_52 f_Model_272 (xw_up_s _ _ _) (xw_gn (by decide) g_a0_outs) ?_
  refine x_aload_n d_Model_reduces_55 rfl rfl ?_
  refine x_get d_Model_reduces_56 f_Model_104 (xw_up_s _ _ _) (xw_gn (by decide) g_a0_top) ?_
  refine x_aload_n d_Model_reduces_59 rfl rfl ?_
  refine x_get d_Model_reduces_60 f_Model_278 (xw_up_s _ _ _) (xw_gs (by simp [l_a0])) ?_
  refine x_iald d_Model_reduces_63 ((xw_up_n _ _ (xw_ne e_top_a0 e_a0 (by simp))).trans e_top_a0) i_63 ?_
  refine x_ineg d_Model_reduces_64 ?_
  refine x_iast d_Model_reduces_65 ((xw_up_n _ _ (xw_ne e_out_a0 e_a0 (by simp))).trans e_out_a0) i_65 ?_
  refine x_aload_n d_Model_reduces_66 rfl rfl ?_
  refine x_dup d_Model_reduces_67 rfl ?_
  refine x_get d_Model_reduces_68 f_Model_272 ((xw_up_n _ _ (xw_ne e_a0 e_out_a0 (by simp))).trans (xw_up_s _ _ _)) (xw_gn (by decide) g_a0_outs) ?_
  refine x_iconst (v := 1) d_Model_reduces_71 (by decide) ?_
  refine x_iadd d_Model_reduces_72 ?_
  refine x_put (ty := .int) d_Model_reduces_73 f_Model_272 fw_Model_37.1 fw_Model_37.2 rfl rfl (by simp [l_a0]) ((xw_up_n _ _ (xw_ne e_a0 e_out_a0 (by simp))).trans (xw_up_s _ _ _)) ?_
  show xw G m_Model_reduces F L bc bs pr px 76 [some (.ref a0), some (.int x1)] [] (xw_up (xw_up (xw_up h a0 (.inr (11, (fs_a0.set 38 (.int (tops_a0 - 1)))))) out_a0 (.inl (0, n_out_a0, .inl (upd f_out_a0 (outs_a0).toNatClampNeg (-(f_top_a0 (tops_a0 - 1).toNatClampNeg)))))) a0 (.inr (11, ((fs_a0.set 38 (.int (tops_a0 - 1))).set 37 (.int (outs_a0 + 1))))))
  refine x_goto (tgt := 0) d_Model_reduces_76 (by decide) ?_
  exact k
theorem s_Model_reduces_79 {G : xw_G} {F L bc bs : Nat} {pr : Option Value → xw_A → Prop} {px : String → xw_A → Prop} {h : xw_A}   (kr : pr none h) : xw G m_Model_reduces F L bc bs pr px 79 [none, none] [] h := by
  exact x_vret d_Model_reduces_79 rfl kr
theorem s_Model_wrongs_0 {G : xw_G} {F L bc bs : Nat} {pr : Option Value → xw_A → Prop} {px : String → xw_A → Prop} {h : xw_A} {a0 : Nat} {x1 : Int32} {x2 : Int32}  (kt : x1 = 0 → xw G m_Model_wrongs F L bc bs pr px 16 [none, none, none] [] h) (kf : ¬ x1 = 0 → xw G m_Model_wrongs F L bc bs pr px 4 [some (.ref a0), none, some (.int x2)] [] h) : xw G m_Model_wrongs F L bc bs pr px 0 [some (.ref a0), some (.int x1), some (.int x2)] [] h := by
  refine x_iload_n d_Model_wrongs_0 rfl rfl ?_
  refine x_if_eq (tgt := 16) d_Model_wrongs_1 (by decide) (fun hc => ?_) (fun hc => ?_)
  · exact x_le (lv' := [none, none, none]) (xw_le_n (xw_le_n (xw_le_n xw_le_e))) (kt hc)
  · exact x_le (lv' := [some (.ref a0), none, some (.int x2)]) (xw_le_s (xw_le_n (xw_le_s xw_le_e))) (kf hc)
theorem s_Model_wrongs_4 {G : xw_G} {F L bc bs : Nat} {pr : Option Value → xw_A → Prop} {px : String → xw_A → Prop} {h : xw_A} {a0 : Nat} {x2 : Int32} {fs_a0 : List Value} {bad_a0 : Int32} (l_a0 : fs_a0.length = 62) (e_a0 : h a0 = some (.inr (11, fs_a0))) (g_a0_bad : fs_a0[(33 : Nat)]? = some (.int bad_a0)) (kt : 0 ≤ bad_a0 → xw G m_Model_wrongs F L bc bs pr px 16 [none, none, none] [] h) (kf : ¬ 0 ≤ bad_a0 → xw G m_Model_wrongs F L bc bs pr px 11 [some (.ref a0), none, some (.int x2)] [] h) : xw G m_Model_wrongs F L bc bs pr px 4 [some (.ref a0), none, some (.int x2)] [] h := by
  refine x_aload_n d_Model_wrongs_4 rfl rfl ?_
  refine x_get d_Model_wrongs_5 f_Model_71 e_a0 g_a0_bad ?_
  refine x_if_ge (tgt := 16) d_Model_wrongs_8 (by decide) (fun hc => ?_) (fun hc => ?_)
  · exact x_le (lv' := [none, none, none]) (xw_le_n (xw_le_n (xw_le_n xw_le_e))) (kt hc)
  · exact kf hc
theorem s_Model_wrongs_11 {G : xw_G} {F L bc bs : Nat} {pr : Option Value → xw_A → Prop} {px : String → xw_A → Prop} {h : xw_A} {a0 : Nat} {x2 : Int32} {fs_a0 : List Value} (l_a0 : fs_a0.length = 62) (e_a0 : h a0 = some (.inr (11, fs_a0))) (k : xw G m_Model_wrongs F L bc bs pr px 16 [none, none, none] [] (xw_up h a0 (.inr (11, (fs_a0.set 33 (.int x2)))))) : xw G m_Model_wrongs F L bc bs pr px 11 [some (.ref a0), none, some (.int x2)] [] h := by
  refine x_aload_n d_Model_wrongs_11 rfl rfl ?_
  refine x_iload_n d_Model_wrongs_12 rfl rfl ?_
  refine x_put (ty := .int) d_Model_wrongs_13 f_Model_71 fw_Model_33.1 fw_Model_33.2 rfl rfl (by simp [l_a0]) e_a0 ?_
  show xw G m_Model_wrongs F L bc bs pr px 16 [some (.ref a0), none, some (.int x2)] [] (xw_up h a0 (.inr (11, (fs_a0.set 33 (.int x2)))))
  exact x_le (lv' := [none, none, none]) (xw_le_n (xw_le_n (xw_le_n xw_le_e))) (k)
theorem s_Model_wrongs_16 {G : xw_G} {F L bc bs : Nat} {pr : Option Value → xw_A → Prop} {px : String → xw_A → Prop} {h : xw_A}   (kr : pr none h) : xw G m_Model_wrongs F L bc bs pr px 16 [none, none, none] [] h := by
  exact x_vret d_Model_wrongs_16 rfl kr
theorem s_Model_closesFilters_0 {G : xw_G} {F L bc bs : Nat} {pr : Option Value → xw_A → Prop} {px : String → xw_A → Prop} {h : xw_A} {a0 : Nat} {fs_a0 : List Value} {tops_a0 : Int32} (l_a0 : fs_a0.length = 62) (e_a0 : h a0 = some (.inr (11, fs_a0))) (g_a0_tops : fs_a0[(38 : Nat)]? = some (.int tops_a0)) (kt : tops_a0 ≤ 0 → xw G m_Model_closesFilters F L bc bs pr px 49 [none] [] h) (kf : ¬ tops_a0 ≤ 0 → xw G m_Model_closesFilters F L bc bs pr px 7 [some (.ref a0)] [] h) : xw G m_Model_closesFilters F L bc bs pr px 0 [some (.ref a0)] [] h := by
  refine x_aload_n d_Model_closesFilters_0 rfl rfl ?_
  refine x_get d_Model_closesFilters_1 f_Model_278 e_a0 g_a0_tops ?_
  refine x_if_le (tgt := 49) d_Model_closesFilters_4 (by decide) (fun hc => ?_) (fun hc => ?_)
  · exact x_le (lv' := [none]) (xw_le_n xw_le_e) (kt hc)
  · exact kf hc
theorem s_Model_closesFilters_7 {G : xw_G} {F L bc bs : Nat} {pr : Option Value → xw_A → Prop} {px : String → xw_A → Prop} {h : xw_A} {a0 : Nat} {fs_a0 : List Value} {top_a0 : Nat} {tops_a0 : Int32} {n_top_a0 : Nat} {f_top_a0 : Nat → Int32} (l_a0 : fs_a0.length = 62) (e_a0 : h a0 = some (.inr (11, fs_a0))) (g_a0_top : fs_a0[(51 : Nat)]? = some (.ref top_a0)) (g_a0_tops : fs_a0[(38 : Nat)]? = some (.int tops_a0)) (e_top_a0 : h top_a0 = some (.inl (0, n_top_a0, .inl f_top_a0))) (i_17 : vp_in (tops_a0 - 1) n_top_a0) (kt : ¬ (f_top_a0 (tops_a0 - 1).toNatClampNeg) = 6 → xw G m_Model_closesFilters F L bc bs pr px 49 [none] [] h) (kf : (f_top_a0 (tops_a0 - 1).toNatClampNeg) = 6 → xw G m_Model_closesFilters F L bc bs pr px 23 [some (.ref a0)] [] h) : xw G m_Model_closesFilters F L bc bs pr px 7 [some (.ref a0)] [] h := by
  refine x_aload_n d_Model_closesFilters_7 rfl rfl ?_
  refine x_get d_Model_closesFilters_8 f_Model_104 e_a0 g_a0_top ?_
  refine x_aload_n d_Model_closesFilters_11 rfl rfl ?_
  refine x_get d_Model_closesFilters_12 f_Model_278 e_a0 g_a0_tops ?_
  refine x_iconst (v := 1) d_Model_closesFilters_15 (by decide) ?_
  refine x_isub d_Model_closesFilters_16 ?_
  refine x_iald d_Model_closesFilters_17 e_top_a0 i_17 ?_
  refine x_bipush (v := 6) d_Model_closesFilters_18 (by decide) ?_
  refine x_icmp_ne (tgt := 49) d_Model_closesFilters_20 (by decide) (fun hc => ?_) (fun hc => ?_)
  · exact x_le (lv' := [none]) (xw_le_n xw_le_e) (kt hc)
  · exact kf hc
theorem s_Model_closesFilters_23 {G : xw_G} {F L bc bs : Nat} {pr : Option Value → xw_A → Prop} {px : String → xw_A → Prop} {h : xw_A} {a0 : Nat} {fs_a0 : List Value} {tops_a0 : Int32} {masks_a0 : Nat} {n_masks_a0 : Nat} {f_masks_a0 : Nat → Int32} (l_a0 : fs_a0.length = 62) (e_a0 : h a0 = some (.inr (11, fs_a0))) (g_a0_tops : fs_a0[(38 : Nat)]? = some (.int tops_a0)) (g_a0_masks : fs_a0[(52 : Nat)]? = some (.ref masks_a0)) (e_masks_a0 : h masks_a0 = some (.inl (0, n_masks_a0, .inl f_masks_a0))) (i_42 : vp_in (tops_a0 - 1) n_masks_a0) (k : xw G m_Model_closesFilters F L bc bs pr px 0 [some (.ref a0)] [] (xw_up (xw_up h a0 (.inr (11, (fs_a0.set 38 (.int (tops_a0 - 1)))))) a0 (.inr (11, ((fs_a0.set 38 (.int (tops_a0 - 1))).set 39 (.int (f_masks_a0 (tops_a0 - 1).toNatClampNeg))))))) : xw G m_Model_closesFilters F L bc bs pr px 23 [some (.ref a0)] [] h := by
  refine x_aload_n d_Model_closesFilters_23 rfl rfl ?_
  refine x_dup d_Model_closesFilters_24 rfl ?_
  refine x_get d_Model_closesFilters_25 f_Model_278 e_a0 g_a0_tops ?_
  refine x_iconst (v := 1) d_Model_closesFilters_28 (by decide) ?_
  refine x_isub d_Model_closesFilters_29 ?_
  refine x_put (ty := .int) d_Model_closesFilters_30 f_Model_278 fw_Model_38.1 fw_Model_38.2 rfl rfl (by simp [l_a0]) e_a0 ?_
  show xw G m_Model_closesFilters F L bc bs pr px 33 [some (.ref a0)] [] (xw_up h a0 (.inr (11, (fs_a0.set 38 (.int (tops_a0 - 1))))))
  refine x_aload_n d_Model_closesFilters_33 rfl rfl ?_
  refine x_aload_n d_Model_closesFilters_34 rfl rfl ?_
  refine x_get d_Model_closesFilters_35 f_Model_107 (xw_up_s _ _ _) (xw_gn (by decide) g_a0_masks) ?_
  refine x_aload_n d_Model_closesFilters_38 rfl rfl ?_
  refine x_get d_Model_closesFilters_39 f_Model_278 (xw_up_s _ _ _) (xw_gs (by simp [l_a0])) ?_
  refine x_iald d_Model_closesFilters_42 ((xw_up_n _ _ (xw_ne e_masks_a0 e_a0 (by simp))).trans e_masks_a0) i_42 ?_
  refine x_put (ty := .int) d_Model_closesFilters_43 f_Model_266 fw_Model_39.1 fw_Model_39.2 rfl rfl (by simp [l_a0]) (xw_up_s _ _ _) ?_
  show xw G m_Model_closesFilters F L bc bs pr px 46 [some (.ref a0)] [] (xw_up (xw_up h a0 (.inr (11, (fs_a0.set 38 (.int (tops_a0 - 1)))))) a0 (.inr (11, ((fs_a0.set 38 (.int (tops_a0 - 1))).set 39 (.int (f_masks_a0 (tops_a0 - 1).toNatClampNeg))))))
  refine x_goto (tgt := 0) d_Model_closesFilters_46 (by decide) ?_
  exact k
theorem s_Model_closesFilters_49 {G : xw_G} {F L bc bs : Nat} {pr : Option Value → xw_A → Prop} {px : String → xw_A → Prop} {h : xw_A}   (kr : pr none h) : xw G m_Model_closesFilters F L bc bs pr px 49 [none] [] h := by
  exact x_vret d_Model_closesFilters_49 rfl kr
theorem s_Model_next_0 {G : xw_G} {F L bc bs : Nat} {pr : Option Value → xw_A → Prop} {px : String → xw_A → Prop} {h : xw_A} {a0 : Nat} {fs_a0 : List Value} {to_a0 : Int32} (l_a0 : fs_a0.length = 62) (e_a0 : h a0 = some (.inr (11, fs_a0))) (g_a0_to : fs_a0[(31 : Nat)]? = some (.int to_a0)) (k : xw G m_Model_next F L bc bs pr px 9 [some (.ref a0)] [.ref a0] (xw_up h a0 (.inr (11, (fs_a0.set 28 (.int to_a0)))))) : xw G m_Model_next F L bc bs pr px 0 [some (.ref a0)] [] h := by
  refine x_aload_n d_Model_next_0 rfl rfl ?_
  refine x_aload_n d_Model_next_1 rfl rfl ?_
  refine x_get d_Model_next_2 f_Model_215 e_a0 g_a0_to ?_
  refine x_put (ty := .int) d_Model_next_5 f_Model_224 fw_Model_28.1 fw_Model_28.2 rfl rfl (by simp [l_a0]) e_a0 ?_
  show xw G m_Model_next F L bc bs pr px 8 [some (.ref a0)] [] (xw_up h a0 (.inr (11, (fs_a0.set 28 (.int to_a0)))))
  refine x_aload_n d_Model_next_8 rfl rfl ?_
  exact k
theorem s_Model_next_12 {G : xw_G} {F L bc bs : Nat} {pr : Option Value → xw_A → Prop} {px : String → xw_A → Prop} {h : xw_A}   (kr : pr none h) : xw G m_Model_next F L bc bs pr px 12 [none] [] h := by
  exact x_vret d_Model_next_12 rfl kr
theorem s_Model_joins_0 {G : xw_G} {F L bc bs : Nat} {pr : Option Value → xw_A → Prop} {px : String → xw_A → Prop} {h : xw_A} {a0 : Nat} {x1 : Int32}  (k : xw G m_Model_joins F L bc bs pr px 2 [some (.ref a0), some (.int x1)] [.int x1, .ref a0] h) : xw G m_Model_joins F L bc bs pr px 0 [some (.ref a0), some (.int x1)] [] h := by
  refine x_aload_n d_Model_joins_0 rfl rfl ?_
  refine x_iload_n d_Model_joins_1 rfl rfl ?_
  exact k
theorem s_Model_joins_5 {G : xw_G} {F L bc bs : Nat} {pr : Option Value → xw_A → Prop} {px : String → xw_A → Prop} {h : xw_A} {a0 : Nat} {x1 : Int32}  (k : xw G m_Model_joins F L bc bs pr px 7 [some (.ref a0), some (.int x1)] [.int x1, .ref a0] h) : xw G m_Model_joins F L bc bs pr px 5 [some (.ref a0), some (.int x1)] [] h := by
  refine x_aload_n d_Model_joins_5 rfl rfl ?_
  refine x_iload_n d_Model_joins_6 rfl rfl ?_
  exact k
theorem s_Model_joins_10 {G : xw_G} {F L bc bs : Nat} {pr : Option Value → xw_A → Prop} {px : String → xw_A → Prop} {h : xw_A}   (kr : pr none h) : xw G m_Model_joins F L bc bs pr px 10 [none, none] [] h := by
  exact x_vret d_Model_joins_10 rfl kr
theorem s_Model_pushes_0 {G : xw_G} {F L bc bs : Nat} {pr : Option Value → xw_A → Prop} {px : String → xw_A → Prop} {h : xw_A} {a0 : Nat} {x1 : Int32} {fs_a0 : List Value} {top_a0 : Nat} {tops_a0 : Int32} {n_top_a0 : Nat} {f_top_a0 : Nat → Int32} {masks_a0 : Nat} {mask_a0 : Int32} {n_masks_a0 : Nat} {f_masks_a0 : Nat → Int32} (l_a0 : fs_a0.length = 62) (e_a0 : h a0 = some (.inr (11, fs_a0))) (g_a0_top : fs_a0[(51 : Nat)]? = some (.ref top_a0)) (g_a0_tops : fs_a0[(38 : Nat)]? = some (.int tops_a0)) (e_top_a0 : h top_a0 = some (.inl (0, n_top_a0, .inl f_top_a0))) (i_9 : vp_in tops_a0 n_top_a0) (g_a0_masks : fs_a0[(52 : Nat)]? = some (.ref masks_a0)) (g_a0_mask : fs_a0[(39 : Nat)]? = some (.int mask_a0)) (e_masks_a0 : h masks_a0 = some (.inl (0, n_masks_a0, .inl f_masks_a0))) (i_22 : vp_in tops_a0 n_masks_a0) (n_masks_a0_top_a0 : masks_a0 ≠ top_a0) (kr : pr none (xw_up (xw_up (xw_up h top_a0 (.inl (0, n_top_a0, .inl (upd f_top_a0 (tops_a0).toNatClampNeg x1)))) masks_a0 (.inl (0, n_masks_a0, .inl (upd f_masks_a0 (tops_a0).toNatClampNeg mask_a0)))) a0 (.inr (11, (fs_a0.set 38 (.int (tops_a0 + 1))))))) : xw G m_Model_pushes F L bc bs pr px 0 [some (.ref a0), some (.int x1)] [] h := by
  refine x_aload_n d_Model_pushes_0 rfl rfl ?_
  refine x_get d_Model_pushes_1 f_Model_104 e_a0 g_a0_top ?_
  refine x_aload_n d_Model_pushes_4 rfl rfl ?_
  refine x_get d_Model_pushes_5 f_Model_278 e_a0 g_a0_tops ?_
  refine x_iload_n d_Model_pushes_8 rfl rfl ?_
  refine x_iast d_Model_pushes_9 e_top_a0 i_9 ?_
  refine x_aload_n d_Model_pushes_10 rfl rfl ?_
  refine x_get d_Model_pushes_11 f_Model_107 ((xw_up_n _ _ (xw_ne e_a0 e_top_a0 (by simp))).trans e_a0) g_a0_masks ?_
  refine x_aload_n d_Model_pushes_14 rfl rfl ?_
  refine x_get d_Model_pushes_15 f_Model_278 ((xw_up_n _ _ (xw_ne e_a0 e_top_a0 (by simp))).trans e_a0) g_a0_tops ?_
  refine x_aload_n d_Model_pushes_18 rfl rfl ?_
  refine x_get d_Model_pushes_19 f_Model_266 ((xw_up_n _ _ (xw_ne e_a0 e_top_a0 (by simp))).trans e_a0) g_a0_mask ?_
  refine x_iast d_Model_pushes_22 ((xw_up_n _ _ n_masks_a0_top_a0).trans e_masks_a0) i_22 ?_
  refine x_aload_n d_Model_pushes_23 rfl rfl ?_
  refine x_dup d_Model_pushes_24 rfl ?_
  refine x_get d_Model_pushes_25 f_Model_278 ((xw_up_n _ _ (xw_ne e_a0 e_masks_a0 (by simp))).trans ((xw_up_n _ _ (xw_ne e_a0 e_top_a0 (by simp))).trans e_a0)) g_a0_tops ?_
  refine x_iconst (v := 1) d_Model_pushes_28 (by decide) ?_
  refine x_iadd d_Model_pushes_29 ?_
  refine x_put (ty := .int) d_Model_pushes_30 f_Model_278 fw_Model_38.1 fw_Model_38.2 rfl rfl (by simp [l_a0]) ((xw_up_n _ _ (xw_ne e_a0 e_masks_a0 (by simp))).trans ((xw_up_n _ _ (xw_ne e_a0 e_top_a0 (by simp))).trans e_a0)) ?_
  show xw G m_Model_pushes F L bc bs pr px 33 [some (.ref a0), some (.int x1)] [] (xw_up (xw_up (xw_up h top_a0 (.inl (0, n_top_a0, .inl (upd f_top_a0 (tops_a0).toNatClampNeg x1)))) masks_a0 (.inl (0, n_masks_a0, .inl (upd f_masks_a0 (tops_a0).toNatClampNeg mask_a0)))) a0 (.inr (11, (fs_a0.set 38 (.int (tops_a0 + 1))))))
  exact x_vret d_Model_pushes_33 rfl kr
theorem s_Model_atom_0 {G : xw_G} {F L bc bs : Nat} {pr : Option Value → xw_A → Prop} {px : String → xw_A → Prop} {h : xw_A} {a0 : Nat} {fs_a0 : List Value} {kind_a0 : Int32} (l_a0 : fs_a0.length = 62) (e_a0 : h a0 = some (.inr (11, fs_a0))) (g_a0_kind : fs_a0[(29 : Nat)]? = some (.int kind_a0)) (kt : ¬ kind_a0 = 3 → xw G m_Model_atom F L bc bs pr px 42 [some (.ref a0)] [] h) (kf : kind_a0 = 3 → xw G m_Model_atom F L bc bs pr px 8 [some (.ref a0)] [] h) : xw G m_Model_atom F L bc bs pr px 0 [some (.ref a0)] [] h := by
  refine x_aload_n d_Model_atom_0 rfl rfl ?_
  refine x_get d_Model_atom_1 f_Model_227 e_a0 g_a0_kind ?_
  refine x_iconst (v := 3) d_Model_atom_4 (by decide) ?_
  refine x_icmp_ne (tgt := 42) d_Model_atom_5 (by decide) (fun hc => ?_) (fun hc => ?_)
  · exact kt hc
  · exact kf hc
theorem s_Model_atom_8 {G : xw_G} {F L bc bs : Nat} {pr : Option Value → xw_A → Prop} {px : String → xw_A → Prop} {h : xw_A} {a0 : Nat}  (k : xw G m_Model_atom F L bc bs pr px 10 [some (.ref a0)] [.ref a0, .ref a0] h) : xw G m_Model_atom F L bc bs pr px 8 [some (.ref a0)] [] h := by
  refine x_aload_n d_Model_atom_8 rfl rfl ?_
  refine x_aload_n d_Model_atom_9 rfl rfl ?_
  exact k
theorem s_Model_atom_13 {G : xw_G} {F L bc bs : Nat} {pr : Option Value → xw_A → Prop} {px : String → xw_A → Prop} {h : xw_A} {a0 : Nat} {y0 : Int32}  (kt : ¬ y0 = 8 → xw G m_Model_atom F L bc bs pr px 22 [some (.ref a0)] [.ref a0] h) (kf : y0 = 8 → xw G m_Model_atom F L bc bs pr px 18 [some (.ref a0)] [.ref a0] h) : xw G m_Model_atom F L bc bs pr px 13 [some (.ref a0)] [.int y0, .ref a0] h := by
  refine x_bipush (v := 8) d_Model_atom_13 (by decide) ?_
  refine x_icmp_ne (tgt := 22) d_Model_atom_15 (by decide) (fun hc => ?_) (fun hc => ?_)
  · exact kt hc
  · exact kf hc
theorem s_Model_atom_18 {G : xw_G} {F L bc bs : Nat} {pr : Option Value → xw_A → Prop} {px : String → xw_A → Prop} {h : xw_A} {a0 : Nat}  (k : xw G m_Model_atom F L bc bs pr px 23 [some (.ref a0)] [.int 1, .ref a0] h) : xw G m_Model_atom F L bc bs pr px 18 [some (.ref a0)] [.ref a0] h := by
  refine x_iconst (v := 1) d_Model_atom_18 (by decide) ?_
  refine x_goto (tgt := 23) d_Model_atom_19 (by decide) ?_
  exact k
theorem s_Model_atom_22 {G : xw_G} {F L bc bs : Nat} {pr : Option Value → xw_A → Prop} {px : String → xw_A → Prop} {h : xw_A} {a0 : Nat}  (k : xw G m_Model_atom F L bc bs pr px 23 [some (.ref a0)] [.int 0, .ref a0] h) : xw G m_Model_atom F L bc bs pr px 22 [some (.ref a0)] [.ref a0] h := by
  refine x_iconst (v := 0) d_Model_atom_22 (by decide) ?_
  exact k
theorem s_Model_atom_23 {G : xw_G} {F L bc bs : Nat} {pr : Option Value → xw_A → Prop} {px : String → xw_A → Prop} {h : xw_A} {a0 : Nat} {y0 : Int32} {fs_a0 : List Value} {from_a0 : Int32} (l_a0 : fs_a0.length = 62) (e_a0 : h a0 = some (.inr (11, fs_a0))) (g_a0_from : fs_a0[(30 : Nat)]? = some (.int from_a0)) (k : xw G m_Model_atom F L bc bs pr px 27 [some (.ref a0)] [.int from_a0, .int y0, .ref a0] h) : xw G m_Model_atom F L bc bs pr px 23 [some (.ref a0)] [.int y0, .ref a0] h := by
  refine x_aload_n d_Model_atom_23 rfl rfl ?_
  refine x_get d_Model_atom_24 f_Model_218 e_a0 g_a0_from ?_
  exact k
theorem s_Model_atom_30 {G : xw_G} {F L bc bs : Nat} {pr : Option Value → xw_A → Prop} {px : String → xw_A → Prop} {h : xw_A} {a0 : Nat}  (k : xw G m_Model_atom F L bc bs pr px 32 [some (.ref a0)] [.int 5, .ref a0] h) : xw G m_Model_atom F L bc bs pr px 30 [some (.ref a0)] [] h := by
  refine x_aload_n d_Model_atom_30 rfl rfl ?_
  refine x_iconst (v := 5) d_Model_atom_31 (by decide) ?_
  exact k
theorem s_Model_atom_35 {G : xw_G} {F L bc bs : Nat} {pr : Option Value → xw_A → Prop} {px : String → xw_A → Prop} {h : xw_A} {a0 : Nat}  (k : xw G m_Model_atom F L bc bs pr px 36 [some (.ref a0)] [.ref a0] h) : xw G m_Model_atom F L bc bs pr px 35 [some (.ref a0)] [] h := by
  refine x_aload_n d_Model_atom_35 rfl rfl ?_
  exact k
theorem s_Model_atom_39 {G : xw_G} {F L bc bs : Nat} {pr : Option Value → xw_A → Prop} {px : String → xw_A → Prop} {h : xw_A}   (k : xw G m_Model_atom F L bc bs pr px 111 [none] [] h) : xw G m_Model_atom F L bc bs pr px 39 [none] [] h := by
  refine x_goto (tgt := 111) d_Model_atom_39 (by decide) ?_
  exact k
theorem s_Model_atom_42 {G : xw_G} {F L bc bs : Nat} {pr : Option Value → xw_A → Prop} {px : String → xw_A → Prop} {h : xw_A} {a0 : Nat} {fs_a0 : List Value} {kind_a0 : Int32} (l_a0 : fs_a0.length = 62) (e_a0 : h a0 = some (.inr (11, fs_a0))) (g_a0_kind : fs_a0[(29 : Nat)]? = some (.int kind_a0)) (kt : kind_a0 = 6 → xw G m_Model_atom F L bc bs pr px 58 [some (.ref a0)] [] h) (kf : ¬ kind_a0 = 6 → xw G m_Model_atom F L bc bs pr px 51 [some (.ref a0)] [] h) : xw G m_Model_atom F L bc bs pr px 42 [some (.ref a0)] [] h := by
  refine x_aload_n d_Model_atom_42 rfl rfl ?_
  refine x_get d_Model_atom_43 f_Model_227 e_a0 g_a0_kind ?_
  refine x_bipush (v := 6) d_Model_atom_46 (by decide) ?_
  refine x_icmp_eq (tgt := 58) d_Model_atom_48 (by decide) (fun hc => ?_) (fun hc => ?_)
  · exact kt hc
  · exact kf hc
theorem s_Model_atom_51 {G : xw_G} {F L bc bs : Nat} {pr : Option Value → xw_A → Prop} {px : String → xw_A → Prop} {h : xw_A} {a0 : Nat}  (k : xw G m_Model_atom F L bc bs pr px 52 [some (.ref a0)] [.ref a0] h) : xw G m_Model_atom F L bc bs pr px 51 [some (.ref a0)] [] h := by
  refine x_aload_n d_Model_atom_51 rfl rfl ?_
  exact k
theorem s_Model_atom_55 {G : xw_G} {F L bc bs : Nat} {pr : Option Value → xw_A → Prop} {px : String → xw_A → Prop} {h : xw_A} {a0 : Nat} {y0 : Int32}  (kt : y0 = 0 → xw G m_Model_atom F L bc bs pr px 65 [some (.ref a0)] [] h) (kf : ¬ y0 = 0 → xw G m_Model_atom F L bc bs pr px 58 [some (.ref a0)] [] h) : xw G m_Model_atom F L bc bs pr px 55 [some (.ref a0)] [.int y0] h := by
  refine x_if_eq (tgt := 65) d_Model_atom_55 (by decide) (fun hc => ?_) (fun hc => ?_)
  · exact kt hc
  · exact kf hc
theorem s_Model_atom_58 {G : xw_G} {F L bc bs : Nat} {pr : Option Value → xw_A → Prop} {px : String → xw_A → Prop} {h : xw_A} {a0 : Nat}  (k : xw G m_Model_atom F L bc bs pr px 59 [some (.ref a0)] [.ref a0] h) : xw G m_Model_atom F L bc bs pr px 58 [some (.ref a0)] [] h := by
  refine x_aload_n d_Model_atom_58 rfl rfl ?_
  exact k
theorem s_Model_atom_62 {G : xw_G} {F L bc bs : Nat} {pr : Option Value → xw_A → Prop} {px : String → xw_A → Prop} {h : xw_A}   (k : xw G m_Model_atom F L bc bs pr px 111 [none] [] h) : xw G m_Model_atom F L bc bs pr px 62 [none] [] h := by
  refine x_goto (tgt := 111) d_Model_atom_62 (by decide) ?_
  exact k
theorem s_Model_atom_65 {G : xw_G} {F L bc bs : Nat} {pr : Option Value → xw_A → Prop} {px : String → xw_A → Prop} {h : xw_A} {a0 : Nat} {fs_a0 : List Value} {kind_a0 : Int32} (l_a0 : fs_a0.length = 62) (e_a0 : h a0 = some (.inr (11, fs_a0))) (g_a0_kind : fs_a0[(29 : Nat)]? = some (.int kind_a0)) (kt : kind_a0 = 7 → xw G m_Model_atom F L bc bs pr px 90 [some (.ref a0)] [] h) (kf : ¬ kind_a0 = 7 → xw G m_Model_atom F L bc bs pr px 74 [some (.ref a0)] [] h) : xw G m_Model_atom F L bc bs pr px 65 [some (.ref a0)] [] h := by
  refine x_aload_n d_Model_atom_65 rfl rfl ?_
  refine x_get d_Model_atom_66 f_Model_227 e_a0 g_a0_kind ?_
  refine x_bipush (v := 7) d_Model_atom_69 (by decide) ?_
  refine x_icmp_eq (tgt := 90) d_Model_atom_71 (by decide) (fun hc => ?_) (fun hc => ?_)
  · exact kt hc
  · exact kf hc
theorem s_Model_atom_74 {G : xw_G} {F L bc bs : Nat} {pr : Option Value → xw_A → Prop} {px : String → xw_A → Prop} {h : xw_A} {a0 : Nat} {fs_a0 : List Value} {kind_a0 : Int32} (l_a0 : fs_a0.length = 62) (e_a0 : h a0 = some (.inr (11, fs_a0))) (g_a0_kind : fs_a0[(29 : Nat)]? = some (.int kind_a0)) (kt : kind_a0 = 14 → xw G m_Model_atom F L bc bs pr px 90 [some (.ref a0)] [] h) (kf : ¬ kind_a0 = 14 → xw G m_Model_atom F L bc bs pr px 83 [some (.ref a0)] [] h) : xw G m_Model_atom F L bc bs pr px 74 [some (.ref a0)] [] h := by
  refine x_aload_n d_Model_atom_74 rfl rfl ?_
  refine x_get d_Model_atom_75 f_Model_227 e_a0 g_a0_kind ?_
  refine x_bipush (v := 14) d_Model_atom_78 (by decide) ?_
  refine x_icmp_eq (tgt := 90) d_Model_atom_80 (by decide) (fun hc => ?_) (fun hc => ?_)
  · exact kt hc
  · exact kf hc
theorem s_Model_atom_83 {G : xw_G} {F L bc bs : Nat} {pr : Option Value → xw_A → Prop} {px : String → xw_A → Prop} {h : xw_A} {a0 : Nat}  (k : xw G m_Model_atom F L bc bs pr px 84 [some (.ref a0)] [.ref a0] h) : xw G m_Model_atom F L bc bs pr px 83 [some (.ref a0)] [] h := by
  refine x_aload_n d_Model_atom_83 rfl rfl ?_
  exact k
theorem s_Model_atom_87 {G : xw_G} {F L bc bs : Nat} {pr : Option Value → xw_A → Prop} {px : String → xw_A → Prop} {h : xw_A} {a0 : Nat} {y0 : Int32}  (kt : y0 = 0 → xw G m_Model_atom F L bc bs pr px 102 [some (.ref a0)] [] h) (kf : ¬ y0 = 0 → xw G m_Model_atom F L bc bs pr px 90 [some (.ref a0)] [] h) : xw G m_Model_atom F L bc bs pr px 87 [some (.ref a0)] [.int y0] h := by
  refine x_if_eq (tgt := 102) d_Model_atom_87 (by decide) (fun hc => ?_) (fun hc => ?_)
  · exact kt hc
  · exact kf hc
theorem s_Model_atom_90 {G : xw_G} {F L bc bs : Nat} {pr : Option Value → xw_A → Prop} {px : String → xw_A → Prop} {h : xw_A} {a0 : Nat}  (k : xw G m_Model_atom F L bc bs pr px 91 [some (.ref a0)] [.ref a0] h) : xw G m_Model_atom F L bc bs pr px 90 [some (.ref a0)] [] h := by
  refine x_aload_n d_Model_atom_90 rfl rfl ?_
  exact k
theorem s_Model_atom_94 {G : xw_G} {F L bc bs : Nat} {pr : Option Value → xw_A → Prop} {px : String → xw_A → Prop} {h : xw_A} {a0 : Nat} {fs_a0 : List Value} (l_a0 : fs_a0.length = 62) (e_a0 : h a0 = some (.inr (11, fs_a0))) (k : xw G m_Model_atom F L bc bs pr px 111 [none] [] (xw_up h a0 (.inr (11, (fs_a0.set 61 (.int 1)))))) : xw G m_Model_atom F L bc bs pr px 94 [some (.ref a0)] [] h := by
  refine x_aload_n d_Model_atom_94 rfl rfl ?_
  refine x_iconst (v := 1) d_Model_atom_95 (by decide) ?_
  refine x_put (ty := .boolean) d_Model_atom_96 f_Model_297 fw_Model_61.1 fw_Model_61.2 rfl rfl (by simp [l_a0]) e_a0 ?_
  show xw G m_Model_atom F L bc bs pr px 99 [some (.ref a0)] [] (xw_up h a0 (.inr (11, (fs_a0.set 61 (.int 1)))))
  refine x_goto (tgt := 111) d_Model_atom_99 (by decide) ?_
  exact x_le (lv' := [none]) (xw_le_n xw_le_e) (k)
theorem s_Model_atom_102 {G : xw_G} {F L bc bs : Nat} {pr : Option Value → xw_A → Prop} {px : String → xw_A → Prop} {h : xw_A} {a0 : Nat} {fs_a0 : List Value} {from_a0 : Int32} (l_a0 : fs_a0.length = 62) (e_a0 : h a0 = some (.inr (11, fs_a0))) (g_a0_from : fs_a0[(30 : Nat)]? = some (.int from_a0)) (k : xw G m_Model_atom F L bc bs pr px 108 [some (.ref a0)] [.int from_a0, .int 1, .ref a0] h) : xw G m_Model_atom F L bc bs pr px 102 [some (.ref a0)] [] h := by
  refine x_aload_n d_Model_atom_102 rfl rfl ?_
  refine x_iconst (v := 1) d_Model_atom_103 (by decide) ?_
  refine x_aload_n d_Model_atom_104 rfl rfl ?_
  refine x_get d_Model_atom_105 f_Model_218 e_a0 g_a0_from ?_
  exact k
theorem s_Model_atom_111 {G : xw_G} {F L bc bs : Nat} {pr : Option Value → xw_A → Prop} {px : String → xw_A → Prop} {h : xw_A}   (kr : pr none h) : xw G m_Model_atom F L bc bs pr px 111 [none] [] h := by
  exact x_vret d_Model_atom_111 rfl kr
theorem s_Model_depth_0 {G : xw_G} {F L bc bs : Nat} {pr : Option Value → xw_A → Prop} {px : String → xw_A → Prop} {h : xw_A} {a0 : Nat}  (k : xw G m_Model_depth F L bc bs pr px 4 [some (.ref a0), some (.int 0), some (.int 0)] [] h) : xw G m_Model_depth F L bc bs pr px 0 [some (.ref a0), none, none] [] h := by
  refine x_iconst (v := 0) d_Model_depth_0 (by decide) ?_
  refine x_istore_n d_Model_depth_1 rfl (by decide) rfl ?_
  show xw G m_Model_depth F L bc bs pr px 2 [some (.ref a0), some (.int 0), none] [] h
  refine x_iconst (v := 0) d_Model_depth_2 (by decide) ?_
  refine x_istore_n d_Model_depth_3 rfl (by decide) rfl ?_
  show xw G m_Model_depth F L bc bs pr px 4 [some (.ref a0), some (.int 0), some (.int 0)] [] h
  exact k
theorem s_Model_depth_4 {G : xw_G} {F L bc bs : Nat} {pr : Option Value → xw_A → Prop} {px : String → xw_A → Prop} {h : xw_A} {a0 : Nat} {x1 : Int32} {x2 : Int32} {fs_a0 : List Value} {tops_a0 : Int32} (l_a0 : fs_a0.length = 62) (e_a0 : h a0 = some (.inr (11, fs_a0))) (g_a0_tops : fs_a0[(38 : Nat)]? = some (.int tops_a0)) (kt : tops_a0 ≤ x2 → xw G m_Model_depth F L bc bs pr px 31 [none, some (.int x1), none] [] h) (kf : ¬ tops_a0 ≤ x2 → xw G m_Model_depth F L bc bs pr px 12 [some (.ref a0), some (.int x1), some (.int x2)] [] h) : xw G m_Model_depth F L bc bs pr px 4 [some (.ref a0), some (.int x1), some (.int x2)] [] h := by
  refine x_iload_n d_Model_depth_4 rfl rfl ?_
  refine x_aload_n d_Model_depth_5 rfl rfl ?_
  refine x_get d_Model_depth_6 f_Model_278 e_a0 g_a0_tops ?_
  refine x_icmp_ge (tgt := 31) d_Model_depth_9 (by decide) (fun hc => ?_) (fun hc => ?_)
  · exact x_le (lv' := [none, some (.int x1), none]) (xw_le_n (xw_le_s (xw_le_n xw_le_e))) (kt hc)
  · exact kf hc
theorem s_Model_depth_12 {G : xw_G} {F L bc bs : Nat} {pr : Option Value → xw_A → Prop} {px : String → xw_A → Prop} {h : xw_A} {a0 : Nat} {x1 : Int32} {x2 : Int32} {fs_a0 : List Value} {top_a0 : Nat} {n_top_a0 : Nat} {f_top_a0 : Nat → Int32} (l_a0 : fs_a0.length = 62) (e_a0 : h a0 = some (.inr (11, fs_a0))) (g_a0_top : fs_a0[(51 : Nat)]? = some (.ref top_a0)) (e_top_a0 : h top_a0 = some (.inl (0, n_top_a0, .inl f_top_a0))) (i_17 : vp_in x2 n_top_a0) (kt : (f_top_a0 x2.toNatClampNeg) < 5 → xw G m_Model_depth F L bc bs pr px 25 [some (.ref a0), some (.int x1), some (.int x2)] [] h) (kf : ¬ (f_top_a0 x2.toNatClampNeg) < 5 → xw G m_Model_depth F L bc bs pr px 22 [some (.ref a0), some (.int x1), some (.int x2)] [] h) : xw G m_Model_depth F L bc bs pr px 12 [some (.ref a0), some (.int x1), some (.int x2)] [] h := by
  refine x_aload_n d_Model_depth_12 rfl rfl ?_
  refine x_get d_Model_depth_13 f_Model_104 e_a0 g_a0_top ?_
  refine x_iload_n d_Model_depth_16 rfl rfl ?_
  refine x_iald d_Model_depth_17 e_top_a0 i_17 ?_
  refine x_iconst (v := 5) d_Model_depth_18 (by decide) ?_
  refine x_icmp_lt (tgt := 25) d_Model_depth_19 (by decide) (fun hc => ?_) (fun hc => ?_)
  · exact kt hc
  · exact kf hc
theorem s_Model_depth_22 {G : xw_G} {F L bc bs : Nat} {pr : Option Value → xw_A → Prop} {px : String → xw_A → Prop} {h : xw_A} {a0 : Nat} {x1 : Int32} {x2 : Int32}  (k : xw G m_Model_depth F L bc bs pr px 25 [some (.ref a0), some (.int (x1 + 1)), some (.int x2)] [] h) : xw G m_Model_depth F L bc bs pr px 22 [some (.ref a0), some (.int x1), some (.int x2)] [] h := by
  refine x_iinc (v := x1 + 1) d_Model_depth_22 rfl (by rfl) (by decide) rfl ?_
  show xw G m_Model_depth F L bc bs pr px 25 [some (.ref a0), some (.int (x1 + 1)), some (.int x2)] [] h
  exact k
theorem s_Model_depth_25 {G : xw_G} {F L bc bs : Nat} {pr : Option Value → xw_A → Prop} {px : String → xw_A → Prop} {h : xw_A} {a0 : Nat} {x1 : Int32} {x2 : Int32}  (k : xw G m_Model_depth F L bc bs pr px 4 [some (.ref a0), some (.int x1), some (.int (x2 + 1))] [] h) : xw G m_Model_depth F L bc bs pr px 25 [some (.ref a0), some (.int x1), some (.int x2)] [] h := by
  refine x_iinc (v := x2 + 1) d_Model_depth_25 rfl (by rfl) (by decide) rfl ?_
  show xw G m_Model_depth F L bc bs pr px 28 [some (.ref a0), some (.int x1), some (.int (x2 + 1))] [] h
  refine x_goto (tgt := 4) d_Model_depth_28 (by decide) ?_
  exact k
theorem s_Model_depth_31 {G : xw_G} {F L bc bs : Nat} {pr : Option Value → xw_A → Prop} {px : String → xw_A → Prop} {h : xw_A} {x1 : Int32}  (kr : pr (some (.int x1)) h) : xw G m_Model_depth F L bc bs pr px 31 [none, some (.int x1), none] [] h := by
  refine x_iload_n d_Model_depth_31 rfl rfl ?_
  exact x_iret d_Model_depth_32 rfl kr
theorem s_Model_isFilter_0 {G : xw_G} {F L bc bs : Nat} {pr : Option Value → xw_A → Prop} {px : String → xw_A → Prop} {h : xw_A} {a0 : Nat} {fs_a0 : List Value} {kind_a0 : Int32} (l_a0 : fs_a0.length = 62) (e_a0 : h a0 = some (.inr (11, fs_a0))) (g_a0_kind : fs_a0[(29 : Nat)]? = some (.int kind_a0)) (kt : ¬ kind_a0 = 1 → xw G m_Model_isFilter F L bc bs pr px 25 [none] [] h) (kf : kind_a0 = 1 → xw G m_Model_isFilter F L bc bs pr px 8 [some (.ref a0)] [] h) : xw G m_Model_isFilter F L bc bs pr px 0 [some (.ref a0)] [] h := by
  refine x_aload_n d_Model_isFilter_0 rfl rfl ?_
  refine x_get d_Model_isFilter_1 f_Model_227 e_a0 g_a0_kind ?_
  refine x_iconst (v := 1) d_Model_isFilter_4 (by decide) ?_
  refine x_icmp_ne (tgt := 25) d_Model_isFilter_5 (by decide) (fun hc => ?_) (fun hc => ?_)
  · exact x_le (lv' := [none]) (xw_le_n xw_le_e) (kt hc)
  · exact kf hc
theorem s_Model_isFilter_8 {G : xw_G} {F L bc bs : Nat} {pr : Option Value → xw_A → Prop} {px : String → xw_A → Prop} {h : xw_A} {a0 : Nat} {fs_a0 : List Value} {to_a0 : Int32} (l_a0 : fs_a0.length = 62) (e_a0 : h a0 = some (.inr (11, fs_a0))) (g_a0_to : fs_a0[(31 : Nat)]? = some (.int to_a0)) (k : xw G m_Model_isFilter F L bc bs pr px 13 [some (.ref a0)] [.int to_a0, .ref a0] h) : xw G m_Model_isFilter F L bc bs pr px 8 [some (.ref a0)] [] h := by
  refine x_aload_n d_Model_isFilter_8 rfl rfl ?_
  refine x_aload_n d_Model_isFilter_9 rfl rfl ?_
  refine x_get d_Model_isFilter_10 f_Model_215 e_a0 g_a0_to ?_
  exact k
theorem s_Model_isFilter_16 {G : xw_G} {F L bc bs : Nat} {pr : Option Value → xw_A → Prop} {px : String → xw_A → Prop} {h : xw_A} {y0 : Int32}  (kt : ¬ y0 = 58 → xw G m_Model_isFilter F L bc bs pr px 25 [none] [] h) (kf : y0 = 58 → xw G m_Model_isFilter F L bc bs pr px 21 [none] [] h) : xw G m_Model_isFilter F L bc bs pr px 16 [none] [.int y0] h := by
  refine x_bipush (v := 58) d_Model_isFilter_16 (by decide) ?_
  refine x_icmp_ne (tgt := 25) d_Model_isFilter_18 (by decide) (fun hc => ?_) (fun hc => ?_)
  · exact kt hc
  · exact kf hc
theorem s_Model_isFilter_21 {G : xw_G} {F L bc bs : Nat} {pr : Option Value → xw_A → Prop} {px : String → xw_A → Prop} {h : xw_A}   (k : xw G m_Model_isFilter F L bc bs pr px 26 [none] [.int 1] h) : xw G m_Model_isFilter F L bc bs pr px 21 [none] [] h := by
  refine x_iconst (v := 1) d_Model_isFilter_21 (by decide) ?_
  refine x_goto (tgt := 26) d_Model_isFilter_22 (by decide) ?_
  exact k
theorem s_Model_isFilter_25 {G : xw_G} {F L bc bs : Nat} {pr : Option Value → xw_A → Prop} {px : String → xw_A → Prop} {h : xw_A}   (k : xw G m_Model_isFilter F L bc bs pr px 26 [none] [.int 0] h) : xw G m_Model_isFilter F L bc bs pr px 25 [none] [] h := by
  refine x_iconst (v := 0) d_Model_isFilter_25 (by decide) ?_
  exact k
theorem s_Model_isFilter_26 {G : xw_G} {F L bc bs : Nat} {pr : Option Value → xw_A → Prop} {px : String → xw_A → Prop} {h : xw_A} {y0 : Int32} (w_26 : narrow .boolean (.int y0) = .int y0) (kr : pr (some (.int y0)) h) : xw G m_Model_isFilter F L bc bs pr px 26 [none] [.int y0] h := by
  exact x_zret d_Model_isFilter_26 rfl w_26 kr
theorem s_Model_filter_0 {G : xw_G} {F L bc bs : Nat} {pr : Option Value → xw_A → Prop} {px : String → xw_A → Prop} {h : xw_A} {a0 : Nat} {fs_a0 : List Value} {from_a0 : Int32} {kind_a0 : Int32} (l_a0 : fs_a0.length = 62) (e_a0 : h a0 = some (.inr (11, fs_a0))) (g_a0_from : fs_a0[(30 : Nat)]? = some (.int from_a0)) (g_a0_kind : fs_a0[(29 : Nat)]? = some (.int kind_a0)) (kt : ¬ kind_a0 = 6 → xw G m_Model_filter F L bc bs pr px 18 [some (.ref a0), some (.int from_a0), none, none] [] h) (kf : kind_a0 = 6 → xw G m_Model_filter F L bc bs pr px 14 [some (.ref a0), some (.int from_a0), none, none] [] h) : xw G m_Model_filter F L bc bs pr px 0 [some (.ref a0), none, none, none] [] h := by
  refine x_aload_n d_Model_filter_0 rfl rfl ?_
  refine x_get d_Model_filter_1 f_Model_218 e_a0 g_a0_from ?_
  refine x_istore_n d_Model_filter_4 rfl (by decide) rfl ?_
  show xw G m_Model_filter F L bc bs pr px 5 [some (.ref a0), some (.int from_a0), none, none] [] h
  refine x_aload_n d_Model_filter_5 rfl rfl ?_
  refine x_get d_Model_filter_6 f_Model_227 e_a0 g_a0_kind ?_
  refine x_bipush (v := 6) d_Model_filter_9 (by decide) ?_
  refine x_icmp_ne (tgt := 18) d_Model_filter_11 (by decide) (fun hc => ?_) (fun hc => ?_)
  · exact kt hc
  · exact kf hc
theorem s_Model_filter_14 {G : xw_G} {F L bc bs : Nat} {pr : Option Value → xw_A → Prop} {px : String → xw_A → Prop} {h : xw_A} {a0 : Nat} {x1 : Int32}  (k : xw G m_Model_filter F L bc bs pr px 19 [some (.ref a0), some (.int x1), none, none] [.int 1] h) : xw G m_Model_filter F L bc bs pr px 14 [some (.ref a0), some (.int x1), none, none] [] h := by
  refine x_iconst (v := 1) d_Model_filter_14 (by decide) ?_
  refine x_goto (tgt := 19) d_Model_filter_15 (by decide) ?_
  exact k
theorem s_Model_filter_18 {G : xw_G} {F L bc bs : Nat} {pr : Option Value → xw_A → Prop} {px : String → xw_A → Prop} {h : xw_A} {a0 : Nat} {x1 : Int32}  (k : xw G m_Model_filter F L bc bs pr px 19 [some (.ref a0), some (.int x1), none, none] [.int 0] h) : xw G m_Model_filter F L bc bs pr px 18 [some (.ref a0), some (.int x1), none, none] [] h := by
  refine x_iconst (v := 0) d_Model_filter_18 (by decide) ?_
  exact k
theorem s_Model_filter_19 {G : xw_G} {F L bc bs : Nat} {pr : Option Value → xw_A → Prop} {px : String → xw_A → Prop} {h : xw_A} {a0 : Nat} {x1 : Int32} {y0 : Int32}  (kt : y0 = 0 → xw G m_Model_filter F L bc bs pr px 28 [some (.ref a0), some (.int x1), some (.int y0), none] [] h) (kf : ¬ y0 = 0 → xw G m_Model_filter F L bc bs pr px 24 [some (.ref a0), some (.int x1), some (.int y0), none] [] h) : xw G m_Model_filter F L bc bs pr px 19 [some (.ref a0), some (.int x1), none, none] [.int y0] h := by
  refine x_istore_n d_Model_filter_19 rfl (by decide) rfl ?_
  show xw G m_Model_filter F L bc bs pr px 20 [some (.ref a0), some (.int x1), some (.int y0), none] [] h
  refine x_iload_n d_Model_filter_20 rfl rfl ?_
  refine x_if_eq (tgt := 28) d_Model_filter_21 (by decide) (fun hc => ?_) (fun hc => ?_)
  · exact kt hc
  · exact kf hc
theorem s_Model_filter_24 {G : xw_G} {F L bc bs : Nat} {pr : Option Value → xw_A → Prop} {px : String → xw_A → Prop} {h : xw_A} {a0 : Nat} {x1 : Int32} {x2 : Int32}  (k : xw G m_Model_filter F L bc bs pr px 25 [some (.ref a0), some (.int x1), some (.int x2), none] [.ref a0] h) : xw G m_Model_filter F L bc bs pr px 24 [some (.ref a0), some (.int x1), some (.int x2), none] [] h := by
  refine x_aload_n d_Model_filter_24 rfl rfl ?_
  exact k
theorem s_Model_filter_28 {G : xw_G} {F L bc bs : Nat} {pr : Option Value → xw_A → Prop} {px : String → xw_A → Prop} {h : xw_A} {a0 : Nat} {x1 : Int32} {x2 : Int32}  (k : xw G m_Model_filter F L bc bs pr px 29 [some (.ref a0), some (.int x1), some (.int x2), none] [.ref a0] h) : xw G m_Model_filter F L bc bs pr px 28 [some (.ref a0), some (.int x1), some (.int x2), none] [] h := by
  refine x_aload_n d_Model_filter_28 rfl rfl ?_
  exact k
theorem s_Model_filter_32 {G : xw_G} {F L bc bs : Nat} {pr : Option Value → xw_A → Prop} {px : String → xw_A → Prop} {h : xw_A} {a0 : Nat} {x1 : Int32} {x2 : Int32} {y0 : Int32}  (kt : y0 = 0 → xw G m_Model_filter F L bc bs pr px 78 [some (.ref a0), some (.int x1), some (.int x2), none] [] h) (kf : ¬ y0 = 0 → xw G m_Model_filter F L bc bs pr px 35 [some (.ref a0), some (.int x1), some (.int x2), none] [] h) : xw G m_Model_filter F L bc bs pr px 32 [some (.ref a0), some (.int x1), some (.int x2), none] [.int y0] h := by
  refine x_if_eq (tgt := 78) d_Model_filter_32 (by decide) (fun hc => ?_) (fun hc => ?_)
  · exact kt hc
  · exact kf hc
theorem s_Model_filter_35 {G : xw_G} {F L bc bs : Nat} {pr : Option Value → xw_A → Prop} {px : String → xw_A → Prop} {h : xw_A} {a0 : Nat} {x1 : Int32} {x2 : Int32} {fs_a0 : List Value} {to_a0 : Int32} {from_a0 : Int32} (l_a0 : fs_a0.length = 62) (e_a0 : h a0 = some (.inr (11, fs_a0))) (g_a0_to : fs_a0[(31 : Nat)]? = some (.int to_a0)) (g_a0_from : fs_a0[(30 : Nat)]? = some (.int from_a0)) (kt : ¬ (to_a0 - from_a0) = 1 → xw G m_Model_filter F L bc bs pr px 78 [some (.ref a0), some (.int x1), some (.int x2), none] [] h) (kf : (to_a0 - from_a0) = 1 → xw G m_Model_filter F L bc bs pr px 48 [some (.ref a0), some (.int x1), some (.int x2), none] [] h) : xw G m_Model_filter F L bc bs pr px 35 [some (.ref a0), some (.int x1), some (.int x2), none] [] h := by
  refine x_aload_n d_Model_filter_35 rfl rfl ?_
  refine x_get d_Model_filter_36 f_Model_215 e_a0 g_a0_to ?_
  refine x_aload_n d_Model_filter_39 rfl rfl ?_
  refine x_get d_Model_filter_40 f_Model_218 e_a0 g_a0_from ?_
  refine x_isub d_Model_filter_43 ?_
  refine x_iconst (v := 1) d_Model_filter_44 (by decide) ?_
  refine x_icmp_ne (tgt := 78) d_Model_filter_45 (by decide) (fun hc => ?_) (fun hc => ?_)
  · exact kt hc
  · exact kf hc
theorem s_Model_filter_48 {G : xw_G} {F L bc bs : Nat} {pr : Option Value → xw_A → Prop} {px : String → xw_A → Prop} {h : xw_A} {a0 : Nat} {x1 : Int32} {x2 : Int32} {fs_a0 : List Value} {from_a0 : Int32} (l_a0 : fs_a0.length = 62) (e_a0 : h a0 = some (.inr (11, fs_a0))) (g_a0_from : fs_a0[(30 : Nat)]? = some (.int from_a0)) (k : xw G m_Model_filter F L bc bs pr px 53 [some (.ref a0), some (.int x1), some (.int x2), none] [.int from_a0, .ref a0] h) : xw G m_Model_filter F L bc bs pr px 48 [some (.ref a0), some (.int x1), some (.int x2), none] [] h := by
  refine x_aload_n d_Model_filter_48 rfl rfl ?_
  refine x_aload_n d_Model_filter_49 rfl rfl ?_
  refine x_get d_Model_filter_50 f_Model_218 e_a0 g_a0_from ?_
  exact k
theorem s_Model_filter_56 {G : xw_G} {F L bc bs : Nat} {pr : Option Value → xw_A → Prop} {px : String → xw_A → Prop} {h : xw_A} {a0 : Nat} {x1 : Int32} {x2 : Int32} {y0 : Int32}  (kt : y0 = 97 → xw G m_Model_filter F L bc bs pr px 74 [some (.ref a0), some (.int x1), some (.int x2), none] [] h) (kf : ¬ y0 = 97 → xw G m_Model_filter F L bc bs pr px 61 [some (.ref a0), some (.int x1), some (.int x2), none] [] h) : xw G m_Model_filter F L bc bs pr px 56 [some (.ref a0), some (.int x1), some (.int x2), none] [.int y0] h := by
  refine x_bipush (v := 97) d_Model_filter_56 (by decide) ?_
  refine x_icmp_eq (tgt := 74) d_Model_filter_58 (by decide) (fun hc => ?_) (fun hc => ?_)
  · exact kt hc
  · exact kf hc
theorem s_Model_filter_61 {G : xw_G} {F L bc bs : Nat} {pr : Option Value → xw_A → Prop} {px : String → xw_A → Prop} {h : xw_A} {a0 : Nat} {x1 : Int32} {x2 : Int32} {fs_a0 : List Value} {from_a0 : Int32} (l_a0 : fs_a0.length = 62) (e_a0 : h a0 = some (.inr (11, fs_a0))) (g_a0_from : fs_a0[(30 : Nat)]? = some (.int from_a0)) (k : xw G m_Model_filter F L bc bs pr px 66 [some (.ref a0), some (.int x1), some (.int x2), none] [.int from_a0, .ref a0] h) : xw G m_Model_filter F L bc bs pr px 61 [some (.ref a0), some (.int x1), some (.int x2), none] [] h := by
  refine x_aload_n d_Model_filter_61 rfl rfl ?_
  refine x_aload_n d_Model_filter_62 rfl rfl ?_
  refine x_get d_Model_filter_63 f_Model_218 e_a0 g_a0_from ?_
  exact k
theorem s_Model_filter_69 {G : xw_G} {F L bc bs : Nat} {pr : Option Value → xw_A → Prop} {px : String → xw_A → Prop} {h : xw_A} {a0 : Nat} {x1 : Int32} {x2 : Int32} {y0 : Int32}  (kt : ¬ y0 = 98 → xw G m_Model_filter F L bc bs pr px 78 [some (.ref a0), some (.int x1), some (.int x2), none] [] h) (kf : y0 = 98 → xw G m_Model_filter F L bc bs pr px 74 [some (.ref a0), some (.int x1), some (.int x2), none] [] h) : xw G m_Model_filter F L bc bs pr px 69 [some (.ref a0), some (.int x1), some (.int x2), none] [.int y0] h := by
  refine x_bipush (v := 98) d_Model_filter_69 (by decide) ?_
  refine x_icmp_ne (tgt := 78) d_Model_filter_71 (by decide) (fun hc => ?_) (fun hc => ?_)
  · exact kt hc
  · exact kf hc
theorem s_Model_filter_74 {G : xw_G} {F L bc bs : Nat} {pr : Option Value → xw_A → Prop} {px : String → xw_A → Prop} {h : xw_A} {a0 : Nat} {x1 : Int32} {x2 : Int32}  (k : xw G m_Model_filter F L bc bs pr px 79 [some (.ref a0), some (.int x1), some (.int x2), none] [.int 1] h) : xw G m_Model_filter F L bc bs pr px 74 [some (.ref a0), some (.int x1), some (.int x2), none] [] h := by
  refine x_iconst (v := 1) d_Model_filter_74 (by decide) ?_
  refine x_goto (tgt := 79) d_Model_filter_75 (by decide) ?_
  exact k
theorem s_Model_filter_78 {G : xw_G} {F L bc bs : Nat} {pr : Option Value → xw_A → Prop} {px : String → xw_A → Prop} {h : xw_A} {a0 : Nat} {x1 : Int32} {x2 : Int32}  (k : xw G m_Model_filter F L bc bs pr px 79 [some (.ref a0), some (.int x1), some (.int x2), none] [.int 0] h) : xw G m_Model_filter F L bc bs pr px 78 [some (.ref a0), some (.int x1), some (.int x2), none] [] h := by
  refine x_iconst (v := 0) d_Model_filter_78 (by decide) ?_
  exact k
theorem s_Model_filter_79 {G : xw_G} {F L bc bs : Nat} {pr : Option Value → xw_A → Prop} {px : String → xw_A → Prop} {h : xw_A} {a0 : Nat} {x1 : Int32} {x2 : Int32} {y0 : Int32}  (kt : ¬ y0 = 0 → xw G m_Model_filter F L bc bs pr px 89 [some (.ref a0), some (.int x1), some (.int x2), none] [.ref a0] h) (kf : y0 = 0 → xw G m_Model_filter F L bc bs pr px 85 [some (.ref a0), some (.int x1), some (.int x2), none] [.ref a0] h) : xw G m_Model_filter F L bc bs pr px 79 [some (.ref a0), some (.int x1), some (.int x2), none] [.int y0] h := by
  refine x_istore_n d_Model_filter_79 rfl (by decide) rfl ?_
  show xw G m_Model_filter F L bc bs pr px 80 [some (.ref a0), some (.int x1), some (.int x2), some (.int y0)] [] h
  refine x_aload_n d_Model_filter_80 rfl rfl ?_
  refine x_iload_n d_Model_filter_81 rfl rfl ?_
  refine x_if_ne (tgt := 89) d_Model_filter_82 (by decide) (fun hc => ?_) (fun hc => ?_)
  · exact x_le (lv' := [some (.ref a0), some (.int x1), some (.int x2), none]) (xw_le_s (xw_le_s (xw_le_s (xw_le_n xw_le_e)))) (kt hc)
  · exact x_le (lv' := [some (.ref a0), some (.int x1), some (.int x2), none]) (xw_le_s (xw_le_s (xw_le_s (xw_le_n xw_le_e)))) (kf hc)
theorem s_Model_filter_85 {G : xw_G} {F L bc bs : Nat} {pr : Option Value → xw_A → Prop} {px : String → xw_A → Prop} {h : xw_A} {a0 : Nat} {x1 : Int32} {x2 : Int32}  (k : xw G m_Model_filter F L bc bs pr px 90 [some (.ref a0), some (.int x1), some (.int x2), none] [.int 1, .ref a0] h) : xw G m_Model_filter F L bc bs pr px 85 [some (.ref a0), some (.int x1), some (.int x2), none] [.ref a0] h := by
  refine x_iconst (v := 1) d_Model_filter_85 (by decide) ?_
  refine x_goto (tgt := 90) d_Model_filter_86 (by decide) ?_
  exact k
theorem s_Model_filter_89 {G : xw_G} {F L bc bs : Nat} {pr : Option Value → xw_A → Prop} {px : String → xw_A → Prop} {h : xw_A} {a0 : Nat} {x1 : Int32} {x2 : Int32}  (k : xw G m_Model_filter F L bc bs pr px 90 [some (.ref a0), some (.int x1), some (.int x2), none] [.int 0, .ref a0] h) : xw G m_Model_filter F L bc bs pr px 89 [some (.ref a0), some (.int x1), some (.int x2), none] [.ref a0] h := by
  refine x_iconst (v := 0) d_Model_filter_89 (by decide) ?_
  exact k
theorem s_Model_filter_90 {G : xw_G} {F L bc bs : Nat} {pr : Option Value → xw_A → Prop} {px : String → xw_A → Prop} {h : xw_A} {a0 : Nat} {x1 : Int32} {x2 : Int32} {y0 : Int32} {fs_a0 : List Value} {from_a0 : Int32} (l_a0 : fs_a0.length = 62) (e_a0 : h a0 = some (.inr (11, fs_a0))) (g_a0_from : fs_a0[(30 : Nat)]? = some (.int from_a0)) (k : xw G m_Model_filter F L bc bs pr px 94 [some (.ref a0), some (.int x1), some (.int x2), none] [.int from_a0, .int y0, .ref a0] h) : xw G m_Model_filter F L bc bs pr px 90 [some (.ref a0), some (.int x1), some (.int x2), none] [.int y0, .ref a0] h := by
  refine x_aload_n d_Model_filter_90 rfl rfl ?_
  refine x_get d_Model_filter_91 f_Model_218 e_a0 g_a0_from ?_
  exact k
theorem s_Model_filter_97 {G : xw_G} {F L bc bs : Nat} {pr : Option Value → xw_A → Prop} {px : String → xw_A → Prop} {h : xw_A} {a0 : Nat} {x1 : Int32} {x2 : Int32}  (k : xw G m_Model_filter F L bc bs pr px 99 [some (.ref a0), some (.int x1), some (.int x2), none] [.ref a0, .ref a0] h) : xw G m_Model_filter F L bc bs pr px 97 [some (.ref a0), some (.int x1), some (.int x2), none] [] h := by
  refine x_aload_n d_Model_filter_97 rfl rfl ?_
  refine x_aload_n d_Model_filter_98 rfl rfl ?_
  exact k
theorem s_Model_filter_102 {G : xw_G} {F L bc bs : Nat} {pr : Option Value → xw_A → Prop} {px : String → xw_A → Prop} {h : xw_A} {a0 : Nat} {x1 : Int32} {x2 : Int32} {y0 : Int32}  (kt : ¬ y0 = 8 → xw G m_Model_filter F L bc bs pr px 111 [some (.ref a0), some (.int x1), some (.int x2), none] [.ref a0] h) (kf : y0 = 8 → xw G m_Model_filter F L bc bs pr px 107 [some (.ref a0), some (.int x1), some (.int x2), none] [.ref a0] h) : xw G m_Model_filter F L bc bs pr px 102 [some (.ref a0), some (.int x1), some (.int x2), none] [.int y0, .ref a0] h := by
  refine x_bipush (v := 8) d_Model_filter_102 (by decide) ?_
  refine x_icmp_ne (tgt := 111) d_Model_filter_104 (by decide) (fun hc => ?_) (fun hc => ?_)
  · exact kt hc
  · exact kf hc
theorem s_Model_filter_107 {G : xw_G} {F L bc bs : Nat} {pr : Option Value → xw_A → Prop} {px : String → xw_A → Prop} {h : xw_A} {a0 : Nat} {x1 : Int32} {x2 : Int32}  (k : xw G m_Model_filter F L bc bs pr px 112 [some (.ref a0), some (.int x1), some (.int x2), none] [.int 1, .ref a0] h) : xw G m_Model_filter F L bc bs pr px 107 [some (.ref a0), some (.int x1), some (.int x2), none] [.ref a0] h := by
  refine x_iconst (v := 1) d_Model_filter_107 (by decide) ?_
  refine x_goto (tgt := 112) d_Model_filter_108 (by decide) ?_
  exact k
theorem s_Model_filter_111 {G : xw_G} {F L bc bs : Nat} {pr : Option Value → xw_A → Prop} {px : String → xw_A → Prop} {h : xw_A} {a0 : Nat} {x1 : Int32} {x2 : Int32}  (k : xw G m_Model_filter F L bc bs pr px 112 [some (.ref a0), some (.int x1), some (.int x2), none] [.int 0, .ref a0] h) : xw G m_Model_filter F L bc bs pr px 111 [some (.ref a0), some (.int x1), some (.int x2), none] [.ref a0] h := by
  refine x_iconst (v := 0) d_Model_filter_111 (by decide) ?_
  exact k
theorem s_Model_filter_112 {G : xw_G} {F L bc bs : Nat} {pr : Option Value → xw_A → Prop} {px : String → xw_A → Prop} {h : xw_A} {a0 : Nat} {x1 : Int32} {x2 : Int32} {y0 : Int32}  (k : xw G m_Model_filter F L bc bs pr px 113 [some (.ref a0), some (.int x1), some (.int x2), none] [.int x1, .int y0, .ref a0] h) : xw G m_Model_filter F L bc bs pr px 112 [some (.ref a0), some (.int x1), some (.int x2), none] [.int y0, .ref a0] h := by
  refine x_iload_n d_Model_filter_112 rfl rfl ?_
  exact k
theorem s_Model_filter_116 {G : xw_G} {F L bc bs : Nat} {pr : Option Value → xw_A → Prop} {px : String → xw_A → Prop} {h : xw_A} {a0 : Nat} {x2 : Int32} {fs_a0 : List Value} {bad_a0 : Int32} (l_a0 : fs_a0.length = 62) (e_a0 : h a0 = some (.inr (11, fs_a0))) (g_a0_bad : fs_a0[(33 : Nat)]? = some (.int bad_a0)) (kt : bad_a0 < 0 → xw G m_Model_filter F L bc bs pr px 124 [some (.ref a0), none, some (.int x2), none] [] h) (kf : ¬ bad_a0 < 0 → xw G m_Model_filter F L bc bs pr px 123 [none, none, none, none] [] h) : xw G m_Model_filter F L bc bs pr px 116 [some (.ref a0), none, some (.int x2), none] [] h := by
  refine x_aload_n d_Model_filter_116 rfl rfl ?_
  refine x_get d_Model_filter_117 f_Model_71 e_a0 g_a0_bad ?_
  refine x_if_lt (tgt := 124) d_Model_filter_120 (by decide) (fun hc => ?_) (fun hc => ?_)
  · exact kt hc
  · exact x_le (lv' := [none, none, none, none]) (xw_le_n (xw_le_n (xw_le_n (xw_le_n xw_le_e)))) (kf hc)
theorem s_Model_filter_123 {G : xw_G} {F L bc bs : Nat} {pr : Option Value → xw_A → Prop} {px : String → xw_A → Prop} {h : xw_A}   (kr : pr none h) : xw G m_Model_filter F L bc bs pr px 123 [none, none, none, none] [] h := by
  exact x_vret d_Model_filter_123 rfl kr
theorem s_Model_filter_124 {G : xw_G} {F L bc bs : Nat} {pr : Option Value → xw_A → Prop} {px : String → xw_A → Prop} {h : xw_A} {a0 : Nat} {x2 : Int32}  (k : xw G m_Model_filter F L bc bs pr px 127 [some (.ref a0), none, some (.int x2), none] [.int 6, .ref a0] h) : xw G m_Model_filter F L bc bs pr px 124 [some (.ref a0), none, some (.int x2), none] [] h := by
  refine x_aload_n d_Model_filter_124 rfl rfl ?_
  refine x_bipush (v := 6) d_Model_filter_125 (by decide) ?_
  exact k
theorem s_Model_filter_130 {G : xw_G} {F L bc bs : Nat} {pr : Option Value → xw_A → Prop} {px : String → xw_A → Prop} {h : xw_A} {a0 : Nat} {x2 : Int32} {fs_a0 : List Value} {mask_a0 : Int32} {from_a0 : Int32} (l_a0 : fs_a0.length = 62) (e_a0 : h a0 = some (.inr (11, fs_a0))) (g_a0_mask : fs_a0[(39 : Nat)]? = some (.int mask_a0)) (g_a0_from : fs_a0[(30 : Nat)]? = some (.int from_a0)) (k : xw G m_Model_filter F L bc bs pr px 140 [some (.ref a0), none, some (.int x2), none] [.int from_a0, .ref a0, .int mask_a0, .ref a0] h) : xw G m_Model_filter F L bc bs pr px 130 [some (.ref a0), none, some (.int x2), none] [] h := by
  refine x_aload_n d_Model_filter_130 rfl rfl ?_
  refine x_dup d_Model_filter_131 rfl ?_
  refine x_get d_Model_filter_132 f_Model_266 e_a0 g_a0_mask ?_
  refine x_aload_n d_Model_filter_135 rfl rfl ?_
  refine x_aload_n d_Model_filter_136 rfl rfl ?_
  refine x_get d_Model_filter_137 f_Model_218 e_a0 g_a0_from ?_
  exact k
theorem s_Model_filter_143 {G : xw_G} {F L bc bs : Nat} {pr : Option Value → xw_A → Prop} {px : String → xw_A → Prop} {h : xw_A} {a0 : Nat} {x2 : Int32} {y0 : Int32} {y1 : Int32}  (kt : ¬ y0 = 97 → xw G m_Model_filter F L bc bs pr px 152 [some (.ref a0), none, some (.int x2), none] [.int y1, .ref a0] h) (kf : y0 = 97 → xw G m_Model_filter F L bc bs pr px 148 [some (.ref a0), none, some (.int x2), none] [.int y1, .ref a0] h) : xw G m_Model_filter F L bc bs pr px 143 [some (.ref a0), none, some (.int x2), none] [.int y0, .int y1, .ref a0] h := by
  refine x_bipush (v := 97) d_Model_filter_143 (by decide) ?_
  refine x_icmp_ne (tgt := 152) d_Model_filter_145 (by decide) (fun hc => ?_) (fun hc => ?_)
  · exact kt hc
  · exact kf hc
theorem s_Model_filter_148 {G : xw_G} {F L bc bs : Nat} {pr : Option Value → xw_A → Prop} {px : String → xw_A → Prop} {h : xw_A} {a0 : Nat} {x2 : Int32} {y0 : Int32}  (k : xw G m_Model_filter F L bc bs pr px 153 [some (.ref a0), none, some (.int x2), none] [.int 1, .int y0, .ref a0] h) : xw G m_Model_filter F L bc bs pr px 148 [some (.ref a0), none, some (.int x2), none] [.int y0, .ref a0] h := by
  refine x_iconst (v := 1) d_Model_filter_148 (by decide) ?_
  refine x_goto (tgt := 153) d_Model_filter_149 (by decide) ?_
  exact k
theorem s_Model_filter_152 {G : xw_G} {F L bc bs : Nat} {pr : Option Value → xw_A → Prop} {px : String → xw_A → Prop} {h : xw_A} {a0 : Nat} {x2 : Int32} {y0 : Int32}  (k : xw G m_Model_filter F L bc bs pr px 153 [some (.ref a0), none, some (.int x2), none] [.int 0, .int y0, .ref a0] h) : xw G m_Model_filter F L bc bs pr px 152 [some (.ref a0), none, some (.int x2), none] [.int y0, .ref a0] h := by
  refine x_iconst (v := 0) d_Model_filter_152 (by decide) ?_
  exact k
theorem s_Model_filter_153 {G : xw_G} {F L bc bs : Nat} {pr : Option Value → xw_A → Prop} {px : String → xw_A → Prop} {h : xw_A} {a0 : Nat} {x2 : Int32} {y0 : Int32} {y1 : Int32}  (kt : y0 = x2 → xw G m_Model_filter F L bc bs pr px 161 [some (.ref a0), none, none, none] [.int y1, .ref a0] h) (kf : ¬ y0 = x2 → xw G m_Model_filter F L bc bs pr px 157 [some (.ref a0), none, none, none] [.int y1, .ref a0] h) : xw G m_Model_filter F L bc bs pr px 153 [some (.ref a0), none, some (.int x2), none] [.int y0, .int y1, .ref a0] h := by
  refine x_iload_n d_Model_filter_153 rfl rfl ?_
  refine x_icmp_eq (tgt := 161) d_Model_filter_154 (by decide) (fun hc => ?_) (fun hc => ?_)
  · exact x_le (lv' := [some (.ref a0), none, none, none]) (xw_le_s (xw_le_n (xw_le_n (xw_le_n xw_le_e)))) (kt hc)
  · exact x_le (lv' := [some (.ref a0), none, none, none]) (xw_le_s (xw_le_n (xw_le_n (xw_le_n xw_le_e)))) (kf hc)
theorem s_Model_filter_157 {G : xw_G} {F L bc bs : Nat} {pr : Option Value → xw_A → Prop} {px : String → xw_A → Prop} {h : xw_A} {a0 : Nat} {y0 : Int32}  (k : xw G m_Model_filter F L bc bs pr px 162 [some (.ref a0), none, none, none] [.int 1, .int y0, .ref a0] h) : xw G m_Model_filter F L bc bs pr px 157 [some (.ref a0), none, none, none] [.int y0, .ref a0] h := by
  refine x_iconst (v := 1) d_Model_filter_157 (by decide) ?_
  refine x_goto (tgt := 162) d_Model_filter_158 (by decide) ?_
  exact k
theorem s_Model_filter_161 {G : xw_G} {F L bc bs : Nat} {pr : Option Value → xw_A → Prop} {px : String → xw_A → Prop} {h : xw_A} {a0 : Nat} {y0 : Int32}  (k : xw G m_Model_filter F L bc bs pr px 162 [some (.ref a0), none, none, none] [.int 2, .int y0, .ref a0] h) : xw G m_Model_filter F L bc bs pr px 161 [some (.ref a0), none, none, none] [.int y0, .ref a0] h := by
  refine x_iconst (v := 2) d_Model_filter_161 (by decide) ?_
  exact k
theorem s_Model_filter_162 {G : xw_G} {F L bc bs : Nat} {pr : Option Value → xw_A → Prop} {px : String → xw_A → Prop} {h : xw_A} {a0 : Nat} {y0 : Int32} {y1 : Int32} {fs_a0 : List Value} (l_a0 : fs_a0.length = 62) (e_a0 : h a0 = some (.inr (11, fs_a0))) (k : xw G m_Model_filter F L bc bs pr px 167 [some (.ref a0), none, none, none] [.ref a0] (xw_up h a0 (.inr (11, (fs_a0.set 39 (.int (y1 &&& y0))))))) : xw G m_Model_filter F L bc bs pr px 162 [some (.ref a0), none, none, none] [.int y0, .int y1, .ref a0] h := by
  refine x_iand d_Model_filter_162 ?_
  refine x_put (ty := .int) d_Model_filter_163 f_Model_266 fw_Model_39.1 fw_Model_39.2 rfl rfl (by simp [l_a0]) e_a0 ?_
  show xw G m_Model_filter F L bc bs pr px 166 [some (.ref a0), none, none, none] [] (xw_up h a0 (.inr (11, (fs_a0.set 39 (.int (y1 &&& y0))))))
  refine x_aload_n d_Model_filter_166 rfl rfl ?_
  exact k
theorem s_Model_filter_170 {G : xw_G} {F L bc bs : Nat} {pr : Option Value → xw_A → Prop} {px : String → xw_A → Prop} {h : xw_A} {a0 : Nat}  (k : xw G m_Model_filter F L bc bs pr px 171 [some (.ref a0), none, none, none] [.ref a0] h) : xw G m_Model_filter F L bc bs pr px 170 [some (.ref a0), none, none, none] [] h := by
  refine x_aload_n d_Model_filter_170 rfl rfl ?_
  exact k
theorem s_Model_filter_174 {G : xw_G} {F L bc bs : Nat} {pr : Option Value → xw_A → Prop} {px : String → xw_A → Prop} {h : xw_A}   (kr : pr none h) : xw G m_Model_filter F L bc bs pr px 174 [none, none, none, none] [] h := by
  exact x_vret d_Model_filter_174 rfl kr
theorem s_Model_isString_0 {G : xw_G} {F L bc bs : Nat} {pr : Option Value → xw_A → Prop} {px : String → xw_A → Prop} {h : xw_A} {a0 : Nat} {fs_a0 : List Value} {kind_a0 : Int32} (l_a0 : fs_a0.length = 62) (e_a0 : h a0 = some (.inr (11, fs_a0))) (g_a0_kind : fs_a0[(29 : Nat)]? = some (.int kind_a0)) (kt : kind_a0 = 2 → xw G m_Model_isString F L bc bs pr px 23 [none] [] h) (kf : ¬ kind_a0 = 2 → xw G m_Model_isString F L bc bs pr px 8 [some (.ref a0)] [] h) : xw G m_Model_isString F L bc bs pr px 0 [some (.ref a0)] [] h := by
  refine x_aload_n d_Model_isString_0 rfl rfl ?_
  refine x_get d_Model_isString_1 f_Model_227 e_a0 g_a0_kind ?_
  refine x_iconst (v := 2) d_Model_isString_4 (by decide) ?_
  refine x_icmp_eq (tgt := 23) d_Model_isString_5 (by decide) (fun hc => ?_) (fun hc => ?_)
  · exact x_le (lv' := [none]) (xw_le_n xw_le_e) (kt hc)
  · exact kf hc
theorem s_Model_isString_8 {G : xw_G} {F L bc bs : Nat} {pr : Option Value → xw_A → Prop} {px : String → xw_A → Prop} {h : xw_A} {a0 : Nat} {fs_a0 : List Value} {kind_a0 : Int32} (l_a0 : fs_a0.length = 62) (e_a0 : h a0 = some (.inr (11, fs_a0))) (g_a0_kind : fs_a0[(29 : Nat)]? = some (.int kind_a0)) (kt : ¬ kind_a0 = 1 → xw G m_Model_isString F L bc bs pr px 27 [none] [] h) (kf : kind_a0 = 1 → xw G m_Model_isString F L bc bs pr px 16 [some (.ref a0)] [] h) : xw G m_Model_isString F L bc bs pr px 8 [some (.ref a0)] [] h := by
  refine x_aload_n d_Model_isString_8 rfl rfl ?_
  refine x_get d_Model_isString_9 f_Model_227 e_a0 g_a0_kind ?_
  refine x_iconst (v := 1) d_Model_isString_12 (by decide) ?_
  refine x_icmp_ne (tgt := 27) d_Model_isString_13 (by decide) (fun hc => ?_) (fun hc => ?_)
  · exact x_le (lv' := [none]) (xw_le_n xw_le_e) (kt hc)
  · exact kf hc
theorem s_Model_isString_16 {G : xw_G} {F L bc bs : Nat} {pr : Option Value → xw_A → Prop} {px : String → xw_A → Prop} {h : xw_A} {a0 : Nat}  (k : xw G m_Model_isString F L bc bs pr px 17 [some (.ref a0)] [.ref a0] h) : xw G m_Model_isString F L bc bs pr px 16 [some (.ref a0)] [] h := by
  refine x_aload_n d_Model_isString_16 rfl rfl ?_
  exact k
theorem s_Model_isString_20 {G : xw_G} {F L bc bs : Nat} {pr : Option Value → xw_A → Prop} {px : String → xw_A → Prop} {h : xw_A} {y0 : Int32}  (kt : ¬ y0 = 0 → xw G m_Model_isString F L bc bs pr px 27 [none] [] h) (kf : y0 = 0 → xw G m_Model_isString F L bc bs pr px 23 [none] [] h) : xw G m_Model_isString F L bc bs pr px 20 [none] [.int y0] h := by
  refine x_if_ne (tgt := 27) d_Model_isString_20 (by decide) (fun hc => ?_) (fun hc => ?_)
  · exact kt hc
  · exact kf hc
theorem s_Model_isString_23 {G : xw_G} {F L bc bs : Nat} {pr : Option Value → xw_A → Prop} {px : String → xw_A → Prop} {h : xw_A}   (k : xw G m_Model_isString F L bc bs pr px 28 [none] [.int 1] h) : xw G m_Model_isString F L bc bs pr px 23 [none] [] h := by
  refine x_iconst (v := 1) d_Model_isString_23 (by decide) ?_
  refine x_goto (tgt := 28) d_Model_isString_24 (by decide) ?_
  exact k
theorem s_Model_isString_27 {G : xw_G} {F L bc bs : Nat} {pr : Option Value → xw_A → Prop} {px : String → xw_A → Prop} {h : xw_A}   (k : xw G m_Model_isString F L bc bs pr px 28 [none] [.int 0] h) : xw G m_Model_isString F L bc bs pr px 27 [none] [] h := by
  refine x_iconst (v := 0) d_Model_isString_27 (by decide) ?_
  exact k
theorem s_Model_isString_28 {G : xw_G} {F L bc bs : Nat} {pr : Option Value → xw_A → Prop} {px : String → xw_A → Prop} {h : xw_A} {y0 : Int32} (w_28 : narrow .boolean (.int y0) = .int y0) (kr : pr (some (.int y0)) h) : xw G m_Model_isString F L bc bs pr px 28 [none] [.int y0] h := by
  exact x_zret d_Model_isString_28 rfl w_28 kr
theorem s_Model_group_0 {G : xw_G} {F L bc bs : Nat} {pr : Option Value → xw_A → Prop} {px : String → xw_A → Prop} {h : xw_A} {a0 : Nat} {fs_a0 : List Value} {groupKind_a0 : Option Nat} {groups_a0 : Int32} {kind_a0 : Int32} (l_a0 : fs_a0.length = 62) (e_a0 : h a0 = some (.inr (11, fs_a0))) (g_a0_groupKind : fs_a0[(45 : Nat)]? = some (va_rf groupKind_a0)) (g_a0_groups : fs_a0[(36 : Nat)]? = some (.int groups_a0)) (g_a0_kind : fs_a0[(29 : Nat)]? = some (.int kind_a0)) (kt : ¬ kind_a0 = 7 → xw G m_Model_group F L bc bs pr px 21 [some (.ref a0)] [.int groups_a0, va_rf groupKind_a0] h) (kf : kind_a0 = 7 → xw G m_Model_group F L bc bs pr px 17 [some (.ref a0)] [.int groups_a0, va_rf groupKind_a0] h) : xw G m_Model_group F L bc bs pr px 0 [some (.ref a0)] [] h := by
  refine x_aload_n d_Model_group_0 rfl rfl ?_
  refine x_get d_Model_group_1 f_Model_86 e_a0 g_a0_groupKind ?_
  refine x_aload_n d_Model_group_4 rfl rfl ?_
  refine x_get d_Model_group_5 f_Model_263 e_a0 g_a0_groups ?_
  refine x_aload_n d_Model_group_8 rfl rfl ?_
  refine x_get d_Model_group_9 f_Model_227 e_a0 g_a0_kind ?_
  refine x_bipush (v := 7) d_Model_group_12 (by decide) ?_
  refine x_icmp_ne (tgt := 21) d_Model_group_14 (by decide) (fun hc => ?_) (fun hc => ?_)
  · exact kt hc
  · exact kf hc
theorem s_Model_group_17 {G : xw_G} {F L bc bs : Nat} {pr : Option Value → xw_A → Prop} {px : String → xw_A → Prop} {h : xw_A} {a0 : Nat} {y0 : Int32} {b1 : Nat}  (k : xw G m_Model_group F L bc bs pr px 35 [some (.ref a0)] [.int 1, .int y0, .ref b1] h) : xw G m_Model_group F L bc bs pr px 17 [some (.ref a0)] [.int y0, .ref b1] h := by
  refine x_iconst (v := 1) d_Model_group_17 (by decide) ?_
  refine x_goto (tgt := 35) d_Model_group_18 (by decide) ?_
  exact k
theorem s_Model_group_21 {G : xw_G} {F L bc bs : Nat} {pr : Option Value → xw_A → Prop} {px : String → xw_A → Prop} {h : xw_A} {a0 : Nat} {y0 : Int32} {b1 : Nat} {fs_a0 : List Value} {kind_a0 : Int32} (l_a0 : fs_a0.length = 62) (e_a0 : h a0 = some (.inr (11, fs_a0))) (g_a0_kind : fs_a0[(29 : Nat)]? = some (.int kind_a0)) (kt : ¬ kind_a0 = 14 → xw G m_Model_group F L bc bs pr px 34 [some (.ref a0)] [.int y0, .ref b1] h) (kf : kind_a0 = 14 → xw G m_Model_group F L bc bs pr px 30 [some (.ref a0)] [.int y0, .ref b1] h) : xw G m_Model_group F L bc bs pr px 21 [some (.ref a0)] [.int y0, .ref b1] h := by
  refine x_aload_n d_Model_group_21 rfl rfl ?_
  refine x_get d_Model_group_22 f_Model_227 e_a0 g_a0_kind ?_
  refine x_bipush (v := 14) d_Model_group_25 (by decide) ?_
  refine x_icmp_ne (tgt := 34) d_Model_group_27 (by decide) (fun hc => ?_) (fun hc => ?_)
  · exact kt hc
  · exact kf hc
theorem s_Model_group_30 {G : xw_G} {F L bc bs : Nat} {pr : Option Value → xw_A → Prop} {px : String → xw_A → Prop} {h : xw_A} {a0 : Nat} {y0 : Int32} {b1 : Nat}  (k : xw G m_Model_group F L bc bs pr px 35 [some (.ref a0)] [.int 2, .int y0, .ref b1] h) : xw G m_Model_group F L bc bs pr px 30 [some (.ref a0)] [.int y0, .ref b1] h := by
  refine x_iconst (v := 2) d_Model_group_30 (by decide) ?_
  refine x_goto (tgt := 35) d_Model_group_31 (by decide) ?_
  exact k
theorem s_Model_group_34 {G : xw_G} {F L bc bs : Nat} {pr : Option Value → xw_A → Prop} {px : String → xw_A → Prop} {h : xw_A} {a0 : Nat} {y0 : Int32} {b1 : Nat}  (k : xw G m_Model_group F L bc bs pr px 35 [some (.ref a0)] [.int 0, .int y0, .ref b1] h) : xw G m_Model_group F L bc bs pr px 34 [some (.ref a0)] [.int y0, .ref b1] h := by
  refine x_iconst (v := 0) d_Model_group_34 (by decide) ?_
  exact k
theorem s_Model_group_35 {G : xw_G} {F L bc bs : Nat} {pr : Option Value → xw_A → Prop} {px : String → xw_A → Prop} {h : xw_A} {a0 : Nat} {y0 : Int32} {y1 : Int32} {b2 : Nat} {n_b2 : Nat} {f_b2 : Nat → Int32} {fs_a0 : List Value} {groupPhrase_a0 : Nat} {groups_a0 : Int32} {phrases_a0 : Int32} {n_groupPhrase_a0 : Nat} {f_groupPhrase_a0 : Nat → Int32} {groupMask_a0 : Nat} {mask_a0 : Int32} {n_groupMask_a0 : Nat} {f_groupMask_a0 : Nat → Int32} {groupFar_a0 : Nat} {n_groupFar_a0 : Nat} {f_groupFar_a0 : Nat → Int32} (e_b2 : h b2 = some (.inl (0, n_b2, .inl f_b2))) (i_35 : vp_in y1 n_b2) (l_a0 : fs_a0.length = 62) (e_a0 : h a0 = some (.inr (11, fs_a0))) (g_a0_groupPhrase : fs_a0[(46 : Nat)]? = some (.ref groupPhrase_a0)) (g_a0_groups : fs_a0[(36 : Nat)]? = some (.int groups_a0)) (g_a0_phrases : fs_a0[(34 : Nat)]? = some (.int phrases_a0)) (e_groupPhrase_a0 : h groupPhrase_a0 = some (.inl (0, n_groupPhrase_a0, .inl f_groupPhrase_a0))) (i_48 : vp_in groups_a0 n_groupPhrase_a0) (n_groupPhrase_a0_b2 : groupPhrase_a0 ≠ b2) (g_a0_groupMask : fs_a0[(48 : Nat)]? = some (.ref groupMask_a0)) (g_a0_mask : fs_a0[(39 : Nat)]? = some (.int mask_a0)) (e_groupMask_a0 : h groupMask_a0 = some (.inl (0, n_groupMask_a0, .inl f_groupMask_a0))) (i_61 : vp_in groups_a0 n_groupMask_a0) (n_groupMask_a0_groupPhrase_a0 : groupMask_a0 ≠ groupPhrase_a0) (n_groupMask_a0_b2 : groupMask_a0 ≠ b2) (g_a0_groupFar : fs_a0[(49 : Nat)]? = some (.ref groupFar_a0)) (e_groupFar_a0 : h groupFar_a0 = some (.inl (0, n_groupFar_a0, .inl f_groupFar_a0))) (i_72 : vp_in groups_a0 n_groupFar_a0) (n_groupFar_a0_groupMask_a0 : groupFar_a0 ≠ groupMask_a0) (n_groupFar_a0_groupPhrase_a0 : groupFar_a0 ≠ groupPhrase_a0) (n_groupFar_a0_b2 : groupFar_a0 ≠ b2) (k : xw G m_Model_group F L bc bs pr px 73 [some (.ref a0)] [] (xw_up (xw_up (xw_up (xw_up h b2 (.inl (0, n_b2, .inl (upd f_b2 (y1).toNatClampNeg y0)))) groupPhrase_a0 (.inl (0, n_groupPhrase_a0, .inl (upd f_groupPhrase_a0 (groups_a0).toNatClampNeg phrases_a0)))) groupMask_a0 (.inl (0, n_groupMask_a0, .inl (upd f_groupMask_a0 (groups_a0).toNatClampNeg mask_a0)))) groupFar_a0 (.inl (0, n_groupFar_a0, .inl (upd f_groupFar_a0 (groups_a0).toNatClampNeg 10))))) : xw G m_Model_group F L bc bs pr px 35 [some (.ref a0)] [.int y0, .int y1, .ref b2] h := by
  refine x_iast d_Model_group_35 e_b2 i_35 ?_
  refine x_aload_n d_Model_group_36 rfl rfl ?_
  refine x_get d_Model_group_37 f_Model_89 ((xw_up_n _ _ (xw_ne e_a0 e_b2 (by simp))).trans e_a0) g_a0_groupPhrase ?_
  refine x_aload_n d_Model_group_40 rfl rfl ?_
  refine x_get d_Model_group_41 f_Model_263 ((xw_up_n _ _ (xw_ne e_a0 e_b2 (by simp))).trans e_a0) g_a0_groups ?_
  refine x_aload_n d_Model_group_44 rfl rfl ?_
  refine x_get d_Model_group_45 f_Model_247 ((xw_up_n _ _ (xw_ne e_a0 e_b2 (by simp))).trans e_a0) g_a0_phrases ?_
  refine x_iast d_Model_group_48 ((xw_up_n _ _ n_groupPhrase_a0_b2).trans e_groupPhrase_a0) i_48 ?_
  refine x_aload_n d_Model_group_49 rfl rfl ?_
  refine x_get d_Model_group_50 f_Model_95 ((xw_up_n _ _ (xw_ne e_a0 e_groupPhrase_a0 (by simp))).trans ((xw_up_n _ _ (xw_ne e_a0 e_b2 (by simp))).trans e_a0)) g_a0_groupMask ?_
  refine x_aload_n d_Model_group_53 rfl rfl ?_
  refine x_get d_Model_group_54 f_Model_263 ((xw_up_n _ _ (xw_ne e_a0 e_groupPhrase_a0 (by simp))).trans ((xw_up_n _ _ (xw_ne e_a0 e_b2 (by simp))).trans e_a0)) g_a0_groups ?_
  refine x_aload_n d_Model_group_57 rfl rfl ?_
  refine x_get d_Model_group_58 f_Model_266 ((xw_up_n _ _ (xw_ne e_a0 e_groupPhrase_a0 (by simp))).trans ((xw_up_n _ _ (xw_ne e_a0 e_b2 (by simp))).trans e_a0)) g_a0_mask ?_
  refine x_iast d_Model_group_61 ((xw_up_n _ _ n_groupMask_a0_groupPhrase_a0).trans ((xw_up_n _ _ n_groupMask_a0_b2).trans e_groupMask_a0)) i_61 ?_
  refine x_aload_n d_Model_group_62 rfl rfl ?_
  refine x_get d_Model_group_63 f_Model_98 ((xw_up_n _ _ (xw_ne e_a0 e_groupMask_a0 (by simp))).trans ((xw_up_n _ _ (xw_ne e_a0 e_groupPhrase_a0 (by simp))).trans ((xw_up_n _ _ (xw_ne e_a0 e_b2 (by simp))).trans e_a0))) g_a0_groupFar ?_
  refine x_aload_n d_Model_group_66 rfl rfl ?_
  refine x_get d_Model_group_67 f_Model_263 ((xw_up_n _ _ (xw_ne e_a0 e_groupMask_a0 (by simp))).trans ((xw_up_n _ _ (xw_ne e_a0 e_groupPhrase_a0 (by simp))).trans ((xw_up_n _ _ (xw_ne e_a0 e_b2 (by simp))).trans e_a0))) g_a0_groups ?_
  refine x_bipush (v := 10) d_Model_group_70 (by decide) ?_
  refine x_iast d_Model_group_72 ((xw_up_n _ _ n_groupFar_a0_groupMask_a0).trans ((xw_up_n _ _ n_groupFar_a0_groupPhrase_a0).trans ((xw_up_n _ _ n_groupFar_a0_b2).trans e_groupFar_a0))) i_72 ?_
  exact k
theorem s_Model_group_73 {G : xw_G} {F L bc bs : Nat} {pr : Option Value → xw_A → Prop} {px : String → xw_A → Prop} {h : xw_A} {a0 : Nat} {fs_a0 : List Value} {kind_a0 : Int32} (l_a0 : fs_a0.length = 62) (e_a0 : h a0 = some (.inr (11, fs_a0))) (g_a0_kind : fs_a0[(29 : Nat)]? = some (.int kind_a0)) (kt : ¬ kind_a0 = 14 → xw G m_Model_group F L bc bs pr px 89 [some (.ref a0)] [] h) (kf : kind_a0 = 14 → xw G m_Model_group F L bc bs pr px 82 [some (.ref a0)] [] h) : xw G m_Model_group F L bc bs pr px 73 [some (.ref a0)] [] h := by
  refine x_aload_n d_Model_group_73 rfl rfl ?_
  refine x_get d_Model_group_74 f_Model_227 e_a0 g_a0_kind ?_
  refine x_bipush (v := 14) d_Model_group_77 (by decide) ?_
  refine x_icmp_ne (tgt := 89) d_Model_group_79 (by decide) (fun hc => ?_) (fun hc => ?_)
  · exact kt hc
  · exact kf hc
theorem s_Model_group_82 {G : xw_G} {F L bc bs : Nat} {pr : Option Value → xw_A → Prop} {px : String → xw_A → Prop} {h : xw_A} {a0 : Nat}  (k : xw G m_Model_group F L bc bs pr px 83 [some (.ref a0)] [.ref a0] h) : xw G m_Model_group F L bc bs pr px 82 [some (.ref a0)] [] h := by
  refine x_aload_n d_Model_group_82 rfl rfl ?_
  exact k
theorem s_Model_group_86 {G : xw_G} {F L bc bs : Nat} {pr : Option Value → xw_A → Prop} {px : String → xw_A → Prop} {h : xw_A} {a0 : Nat}  (k : xw G m_Model_group F L bc bs pr px 106 [some (.ref a0)] [] h) : xw G m_Model_group F L bc bs pr px 86 [some (.ref a0)] [] h := by
  refine x_goto (tgt := 106) d_Model_group_86 (by decide) ?_
  exact k
theorem s_Model_group_89 {G : xw_G} {F L bc bs : Nat} {pr : Option Value → xw_A → Prop} {px : String → xw_A → Prop} {h : xw_A} {a0 : Nat} {fs_a0 : List Value} {kind_a0 : Int32} (l_a0 : fs_a0.length = 62) (e_a0 : h a0 = some (.inr (11, fs_a0))) (g_a0_kind : fs_a0[(29 : Nat)]? = some (.int kind_a0)) (kt : ¬ kind_a0 = 7 → xw G m_Model_group F L bc bs pr px 102 [some (.ref a0)] [] h) (kf : kind_a0 = 7 → xw G m_Model_group F L bc bs pr px 98 [some (.ref a0)] [] h) : xw G m_Model_group F L bc bs pr px 89 [some (.ref a0)] [] h := by
  refine x_aload_n d_Model_group_89 rfl rfl ?_
  refine x_get d_Model_group_90 f_Model_227 e_a0 g_a0_kind ?_
  refine x_bipush (v := 7) d_Model_group_93 (by decide) ?_
  refine x_icmp_ne (tgt := 102) d_Model_group_95 (by decide) (fun hc => ?_) (fun hc => ?_)
  · exact kt hc
  · exact kf hc
theorem s_Model_group_98 {G : xw_G} {F L bc bs : Nat} {pr : Option Value → xw_A → Prop} {px : String → xw_A → Prop} {h : xw_A} {a0 : Nat}  (k : xw G m_Model_group F L bc bs pr px 99 [some (.ref a0)] [.ref a0] h) : xw G m_Model_group F L bc bs pr px 98 [some (.ref a0)] [] h := by
  refine x_aload_n d_Model_group_98 rfl rfl ?_
  exact k
theorem s_Model_group_102 {G : xw_G} {F L bc bs : Nat} {pr : Option Value → xw_A → Prop} {px : String → xw_A → Prop} {h : xw_A} {a0 : Nat}  (k : xw G m_Model_group F L bc bs pr px 103 [some (.ref a0)] [.ref a0] h) : xw G m_Model_group F L bc bs pr px 102 [some (.ref a0)] [] h := by
  refine x_aload_n d_Model_group_102 rfl rfl ?_
  exact k
theorem s_Model_group_106 {G : xw_G} {F L bc bs : Nat} {pr : Option Value → xw_A → Prop} {px : String → xw_A → Prop} {h : xw_A} {a0 : Nat} {fs_a0 : List Value} {bad_a0 : Int32} (l_a0 : fs_a0.length = 62) (e_a0 : h a0 = some (.inr (11, fs_a0))) (g_a0_bad : fs_a0[(33 : Nat)]? = some (.int bad_a0)) (kt : bad_a0 < 0 → xw G m_Model_group F L bc bs pr px 114 [some (.ref a0)] [] h) (kf : ¬ bad_a0 < 0 → xw G m_Model_group F L bc bs pr px 113 [none] [] h) : xw G m_Model_group F L bc bs pr px 106 [some (.ref a0)] [] h := by
  refine x_aload_n d_Model_group_106 rfl rfl ?_
  refine x_get d_Model_group_107 f_Model_71 e_a0 g_a0_bad ?_
  refine x_if_lt (tgt := 114) d_Model_group_110 (by decide) (fun hc => ?_) (fun hc => ?_)
  · exact kt hc
  · exact x_le (lv' := [none]) (xw_le_n xw_le_e) (kf hc)
theorem s_Model_group_113 {G : xw_G} {F L bc bs : Nat} {pr : Option Value → xw_A → Prop} {px : String → xw_A → Prop} {h : xw_A}   (kr : pr none h) : xw G m_Model_group F L bc bs pr px 113 [none] [] h := by
  exact x_vret d_Model_group_113 rfl kr
theorem s_Model_group_114 {G : xw_G} {F L bc bs : Nat} {pr : Option Value → xw_A → Prop} {px : String → xw_A → Prop} {h : xw_A} {a0 : Nat} {fs_a0 : List Value} {groupSize_a0 : Nat} {groups_a0 : Int32} {phrases_a0 : Int32} {groupPhrase_a0 : Nat} {n_groupPhrase_a0 : Nat} {f_groupPhrase_a0 : Nat → Int32} {n_groupSize_a0 : Nat} {f_groupSize_a0 : Nat → Int32} {out_a0 : Nat} {outs_a0 : Int32} {n_out_a0 : Nat} {f_out_a0 : Nat → Int32} (l_a0 : fs_a0.length = 62) (e_a0 : h a0 = some (.inr (11, fs_a0))) (g_a0_groupSize : fs_a0[(47 : Nat)]? = some (.ref groupSize_a0)) (g_a0_groups : fs_a0[(36 : Nat)]? = some (.int groups_a0)) (g_a0_phrases : fs_a0[(34 : Nat)]? = some (.int phrases_a0)) (g_a0_groupPhrase : fs_a0[(46 : Nat)]? = some (.ref groupPhrase_a0)) (e_groupPhrase_a0 : h groupPhrase_a0 = some (.inl (0, n_groupPhrase_a0, .inl f_groupPhrase_a0))) (i_134 : vp_in groups_a0 n_groupPhrase_a0) (e_groupSize_a0 : h groupSize_a0 = some (.inl (0, n_groupSize_a0, .inl f_groupSize_a0))) (i_136 : vp_in groups_a0 n_groupSize_a0) (g_a0_out : fs_a0[(50 : Nat)]? = some (.ref out_a0)) (g_a0_outs : fs_a0[(37 : Nat)]? = some (.int outs_a0)) (e_out_a0 : h out_a0 = some (.inl (0, n_out_a0, .inl f_out_a0))) (i_149 : vp_in outs_a0 n_out_a0) (n_out_a0_groupSize_a0 : out_a0 ≠ groupSize_a0) (k : xw G m_Model_group F L bc bs pr px 170 [some (.ref a0)] [] (xw_up (xw_up (xw_up (xw_up h groupSize_a0 (.inl (0, n_groupSize_a0, .inl (upd f_groupSize_a0 (groups_a0).toNatClampNeg (phrases_a0 - (f_groupPhrase_a0 groups_a0.toNatClampNeg)))))) out_a0 (.inl (0, n_out_a0, .inl (upd f_out_a0 (outs_a0).toNatClampNeg groups_a0)))) a0 (.inr (11, (fs_a0.set 37 (.int (outs_a0 + 1)))))) a0 (.inr (11, ((fs_a0.set 37 (.int (outs_a0 + 1))).set 36 (.int (groups_a0 + 1))))))) : xw G m_Model_group F L bc bs pr px 114 [some (.ref a0)] [] h := by
  refine x_aload_n d_Model_group_114 rfl rfl ?_
  refine x_get d_Model_group_115 f_Model_92 e_a0 g_a0_groupSize ?_
  refine x_aload_n d_Model_group_118 rfl rfl ?_
  refine x_get d_Model_group_119 f_Model_263 e_a0 g_a0_groups ?_
  refine x_aload_n d_Model_group_122 rfl rfl ?_
  refine x_get d_Model_group_123 f_Model_247 e_a0 g_a0_phrases ?_
  refine x_aload_n d_Model_group_126 rfl rfl ?_
  refine x_get d_Model_group_127 f_Model_89 e_a0 g_a0_groupPhrase ?_
  refine x_aload_n d_Model_group_130 rfl rfl ?_
  refine x_get d_Model_group_131 f_Model_263 e_a0 g_a0_groups ?_
  refine x_iald d_Model_group_134 e_groupPhrase_a0 i_134 ?_
  refine x_isub d_Model_group_135 ?_
  refine x_iast d_Model_group_136 e_groupSize_a0 i_136 ?_
  refine x_aload_n d_Model_group_137 rfl rfl ?_
  refine x_get d_Model_group_138 f_Model_101 ((xw_up_n _ _ (xw_ne e_a0 e_groupSize_a0 (by simp))).trans e_a0) g_a0_out ?_
  refine x_aload_n d_Model_group_141 rfl rfl ?_
  refine x_get d_Model_group_142 f_Model_272 ((xw_up_n _ _ (xw_ne e_a0 e_groupSize_a0 (by simp))).trans e_a0) g_a0_outs ?_
  refine x_aload_n d_Model_group_145 rfl rfl ?_
  refine x_get d_Model_group_146 f_Model_263 ((xw_up_n _ _ (xw_ne e_a0 e_groupSize_a0 (by simp))).trans e_a0) g_a0_groups ?_
  refine x_iast d_Model_group_149 ((xw_up_n _ _ n_out_a0_groupSize_a0).trans e_out_a0) i_149 ?_
  refine x_aload_n d_Model_group_150 rfl rfl ?_
  refine x_dup d_Model_group_151 rfl ?_
  refine x_get d_Model_group_152 f_Model_272 ((xw_up_n _ _ (xw_ne e_a0 e_out_a0 (by simp))).trans ((xw_up_n _ _ (xw_ne e_a0 e_groupSize_a0 (by simp))).trans e_a0)) g_a0_outs ?_
  refine x_iconst (v := 1) d_Model_group_155 (by decide) ?_
  refine x_iadd d_Model_group_156 ?_
  refine x_put (ty := .int) d_Model_group_157 f_Model_272 fw_Model_37.1 fw_Model_37.2 rfl rfl (by simp [l_a0]) ((xw_up_n _ _ (xw_ne e_a0 e_out_a0 (by simp))).trans ((xw_up_n _ _ (xw_ne e_a0 e_groupSize_a0 (by simp))).trans e_a0)) ?_
  show xw G m_Model_group F L bc bs pr px 160 [some (.ref a0)] [] (xw_up (xw_up (xw_up h groupSize_a0 (.inl (0, n_groupSize_a0, .inl (upd f_groupSize_a0 (groups_a0).toNatClampNeg (phrases_a0 - (f_groupPhrase_a0 groups_a0.toNatClampNeg)))))) out_a0 (.inl (0, n_out_a0, .inl (upd f_out_a0 (outs_a0).toNatClampNeg groups_a0)))) a0 (.inr (11, (fs_a0.set 37 (.int (outs_a0 + 1))))))
  refine x_aload_n d_Model_group_160 rfl rfl ?_
  refine x_dup d_Model_group_161 rfl ?_
  refine x_get d_Model_group_162 f_Model_263 (xw_up_s _ _ _) (xw_gn (by decide) g_a0_groups) ?_
  refine x_iconst (v := 1) d_Model_group_165 (by decide) ?_
  refine x_iadd d_Model_group_166 ?_
  refine x_put (ty := .int) d_Model_group_167 f_Model_263 fw_Model_36.1 fw_Model_36.2 rfl rfl (by simp [l_a0]) (xw_up_s _ _ _) ?_
  show xw G m_Model_group F L bc bs pr px 170 [some (.ref a0)] [] (xw_up (xw_up (xw_up (xw_up h groupSize_a0 (.inl (0, n_groupSize_a0, .inl (upd f_groupSize_a0 (groups_a0).toNatClampNeg (phrases_a0 - (f_groupPhrase_a0 groups_a0.toNatClampNeg)))))) out_a0 (.inl (0, n_out_a0, .inl (upd f_out_a0 (outs_a0).toNatClampNeg groups_a0)))) a0 (.inr (11, (fs_a0.set 37 (.int (outs_a0 + 1)))))) a0 (.inr (11, ((fs_a0.set 37 (.int (outs_a0 + 1))).set 36 (.int (groups_a0 + 1))))))
  exact k
theorem s_Model_group_170 {G : xw_G} {F L bc bs : Nat} {pr : Option Value → xw_A → Prop} {px : String → xw_A → Prop} {h : xw_A} {a0 : Nat}  (k : xw G m_Model_group F L bc bs pr px 171 [some (.ref a0)] [.ref a0] h) : xw G m_Model_group F L bc bs pr px 170 [some (.ref a0)] [] h := by
  refine x_aload_n d_Model_group_170 rfl rfl ?_
  exact k
theorem s_Model_group_174 {G : xw_G} {F L bc bs : Nat} {pr : Option Value → xw_A → Prop} {px : String → xw_A → Prop} {h : xw_A}   (kr : pr none h) : xw G m_Model_group F L bc bs pr px 174 [none] [] h := by
  exact x_vret d_Model_group_174 rfl kr
theorem s_Model_near_0 {G : xw_G} {F L bc bs : Nat} {pr : Option Value → xw_A → Prop} {px : String → xw_A → Prop} {h : xw_A} {a0 : Nat}  (k : xw G m_Model_near F L bc bs pr px 1 [some (.ref a0), none, none, none] [.ref a0] h) : xw G m_Model_near F L bc bs pr px 0 [some (.ref a0), none, none, none] [] h := by
  refine x_aload_n d_Model_near_0 rfl rfl ?_
  exact k
theorem s_Model_near_4 {G : xw_G} {F L bc bs : Nat} {pr : Option Value → xw_A → Prop} {px : String → xw_A → Prop} {h : xw_A} {a0 : Nat} {fs_a0 : List Value} {kind_a0 : Int32} (l_a0 : fs_a0.length = 62) (e_a0 : h a0 = some (.inr (11, fs_a0))) (g_a0_kind : fs_a0[(29 : Nat)]? = some (.int kind_a0)) (kt : kind_a0 = 3 → xw G m_Model_near F L bc bs pr px 17 [some (.ref a0), none, none, none] [.ref a0] h) (kf : ¬ kind_a0 = 3 → xw G m_Model_near F L bc bs pr px 13 [some (.ref a0), none, none, none] [.ref a0] h) : xw G m_Model_near F L bc bs pr px 4 [some (.ref a0), none, none, none] [] h := by
  refine x_aload_n d_Model_near_4 rfl rfl ?_
  refine x_aload_n d_Model_near_5 rfl rfl ?_
  refine x_get d_Model_near_6 f_Model_227 e_a0 g_a0_kind ?_
  refine x_iconst (v := 3) d_Model_near_9 (by decide) ?_
  refine x_icmp_eq (tgt := 17) d_Model_near_10 (by decide) (fun hc => ?_) (fun hc => ?_)
  · exact kt hc
  · exact kf hc
theorem s_Model_near_13 {G : xw_G} {F L bc bs : Nat} {pr : Option Value → xw_A → Prop} {px : String → xw_A → Prop} {h : xw_A} {a0 : Nat}  (k : xw G m_Model_near F L bc bs pr px 18 [some (.ref a0), none, none, none] [.int 1, .ref a0] h) : xw G m_Model_near F L bc bs pr px 13 [some (.ref a0), none, none, none] [.ref a0] h := by
  refine x_iconst (v := 1) d_Model_near_13 (by decide) ?_
  refine x_goto (tgt := 18) d_Model_near_14 (by decide) ?_
  exact k
theorem s_Model_near_17 {G : xw_G} {F L bc bs : Nat} {pr : Option Value → xw_A → Prop} {px : String → xw_A → Prop} {h : xw_A} {a0 : Nat}  (k : xw G m_Model_near F L bc bs pr px 18 [some (.ref a0), none, none, none] [.int 0, .ref a0] h) : xw G m_Model_near F L bc bs pr px 17 [some (.ref a0), none, none, none] [.ref a0] h := by
  refine x_iconst (v := 0) d_Model_near_17 (by decide) ?_
  exact k
theorem s_Model_near_18 {G : xw_G} {F L bc bs : Nat} {pr : Option Value → xw_A → Prop} {px : String → xw_A → Prop} {h : xw_A} {a0 : Nat} {y0 : Int32} {fs_a0 : List Value} {from_a0 : Int32} (l_a0 : fs_a0.length = 62) (e_a0 : h a0 = some (.inr (11, fs_a0))) (g_a0_from : fs_a0[(30 : Nat)]? = some (.int from_a0)) (k : xw G m_Model_near F L bc bs pr px 22 [some (.ref a0), none, none, none] [.int from_a0, .int y0, .ref a0] h) : xw G m_Model_near F L bc bs pr px 18 [some (.ref a0), none, none, none] [.int y0, .ref a0] h := by
  refine x_aload_n d_Model_near_18 rfl rfl ?_
  refine x_get d_Model_near_19 f_Model_218 e_a0 g_a0_from ?_
  exact k
theorem s_Model_near_25 {G : xw_G} {F L bc bs : Nat} {pr : Option Value → xw_A → Prop} {px : String → xw_A → Prop} {h : xw_A} {a0 : Nat} {fs_a0 : List Value} {bad_a0 : Int32} (l_a0 : fs_a0.length = 62) (e_a0 : h a0 = some (.inr (11, fs_a0))) (g_a0_bad : fs_a0[(33 : Nat)]? = some (.int bad_a0)) (kt : bad_a0 < 0 → xw G m_Model_near F L bc bs pr px 33 [some (.ref a0), none, none, none] [] h) (kf : ¬ bad_a0 < 0 → xw G m_Model_near F L bc bs pr px 32 [none, none, none, none] [] h) : xw G m_Model_near F L bc bs pr px 25 [some (.ref a0), none, none, none] [] h := by
  refine x_aload_n d_Model_near_25 rfl rfl ?_
  refine x_get d_Model_near_26 f_Model_71 e_a0 g_a0_bad ?_
  refine x_if_lt (tgt := 33) d_Model_near_29 (by decide) (fun hc => ?_) (fun hc => ?_)
  · exact kt hc
  · exact x_le (lv' := [none, none, none, none]) (xw_le_n (xw_le_n (xw_le_n (xw_le_n xw_le_e)))) (kf hc)
theorem s_Model_near_32 {G : xw_G} {F L bc bs : Nat} {pr : Option Value → xw_A → Prop} {px : String → xw_A → Prop} {h : xw_A}   (kr : pr none h) : xw G m_Model_near F L bc bs pr px 32 [none, none, none, none] [] h := by
  exact x_vret d_Model_near_32 rfl kr
theorem s_Model_near_33 {G : xw_G} {F L bc bs : Nat} {pr : Option Value → xw_A → Prop} {px : String → xw_A → Prop} {h : xw_A} {a0 : Nat}  (k : xw G m_Model_near F L bc bs pr px 34 [some (.ref a0), none, none, none] [.ref a0] h) : xw G m_Model_near F L bc bs pr px 33 [some (.ref a0), none, none, none] [] h := by
  refine x_aload_n d_Model_near_33 rfl rfl ?_
  exact k
theorem s_Model_near_37 {G : xw_G} {F L bc bs : Nat} {pr : Option Value → xw_A → Prop} {px : String → xw_A → Prop} {h : xw_A} {a0 : Nat}  (k : xw G m_Model_near F L bc bs pr px 38 [some (.ref a0), none, none, none] [.ref a0] h) : xw G m_Model_near F L bc bs pr px 37 [some (.ref a0), none, none, none] [] h := by
  refine x_aload_n d_Model_near_37 rfl rfl ?_
  exact k
theorem s_Model_near_41 {G : xw_G} {F L bc bs : Nat} {pr : Option Value → xw_A → Prop} {px : String → xw_A → Prop} {h : xw_A} {a0 : Nat} {fs_a0 : List Value} {bad_a0 : Int32} (l_a0 : fs_a0.length = 62) (e_a0 : h a0 = some (.inr (11, fs_a0))) (g_a0_bad : fs_a0[(33 : Nat)]? = some (.int bad_a0)) (kt : 0 ≤ bad_a0 → xw G m_Model_near F L bc bs pr px 72 [some (.ref a0), none, none, none] [] h) (kf : ¬ 0 ≤ bad_a0 → xw G m_Model_near F L bc bs pr px 48 [some (.ref a0), none, none, none] [] h) : xw G m_Model_near F L bc bs pr px 41 [some (.ref a0), none, none, none] [] h := by
  refine x_aload_n d_Model_near_41 rfl rfl ?_
  refine x_get d_Model_near_42 f_Model_71 e_a0 g_a0_bad ?_
  refine x_if_ge (tgt := 72) d_Model_near_45 (by decide) (fun hc => ?_) (fun hc => ?_)
  · exact kt hc
  · exact kf hc
theorem s_Model_near_48 {G : xw_G} {F L bc bs : Nat} {pr : Option Value → xw_A → Prop} {px : String → xw_A → Prop} {h : xw_A} {a0 : Nat} {fs_a0 : List Value} {kind_a0 : Int32} (l_a0 : fs_a0.length = 62) (e_a0 : h a0 = some (.inr (11, fs_a0))) (g_a0_kind : fs_a0[(29 : Nat)]? = some (.int kind_a0)) (kt : kind_a0 = 4 → xw G m_Model_near F L bc bs pr px 72 [some (.ref a0), none, none, none] [] h) (kf : ¬ kind_a0 = 4 → xw G m_Model_near F L bc bs pr px 56 [some (.ref a0), none, none, none] [] h) : xw G m_Model_near F L bc bs pr px 48 [some (.ref a0), none, none, none] [] h := by
  refine x_aload_n d_Model_near_48 rfl rfl ?_
  refine x_get d_Model_near_49 f_Model_227 e_a0 g_a0_kind ?_
  refine x_iconst (v := 4) d_Model_near_52 (by decide) ?_
  refine x_icmp_eq (tgt := 72) d_Model_near_53 (by decide) (fun hc => ?_) (fun hc => ?_)
  · exact kt hc
  · exact kf hc
theorem s_Model_near_56 {G : xw_G} {F L bc bs : Nat} {pr : Option Value → xw_A → Prop} {px : String → xw_A → Prop} {h : xw_A} {a0 : Nat} {fs_a0 : List Value} {kind_a0 : Int32} (l_a0 : fs_a0.length = 62) (e_a0 : h a0 = some (.inr (11, fs_a0))) (g_a0_kind : fs_a0[(29 : Nat)]? = some (.int kind_a0)) (kt : kind_a0 = 10 → xw G m_Model_near F L bc bs pr px 72 [some (.ref a0), none, none, none] [] h) (kf : ¬ kind_a0 = 10 → xw G m_Model_near F L bc bs pr px 65 [some (.ref a0), none, none, none] [] h) : xw G m_Model_near F L bc bs pr px 56 [some (.ref a0), none, none, none] [] h := by
  refine x_aload_n d_Model_near_56 rfl rfl ?_
  refine x_get d_Model_near_57 f_Model_227 e_a0 g_a0_kind ?_
  refine x_bipush (v := 10) d_Model_near_60 (by decide) ?_
  refine x_icmp_eq (tgt := 72) d_Model_near_62 (by decide) (fun hc => ?_) (fun hc => ?_)
  · exact kt hc
  · exact kf hc
theorem s_Model_near_65 {G : xw_G} {F L bc bs : Nat} {pr : Option Value → xw_A → Prop} {px : String → xw_A → Prop} {h : xw_A} {a0 : Nat}  (k : xw G m_Model_near F L bc bs pr px 66 [some (.ref a0), none, none, none] [.ref a0] h) : xw G m_Model_near F L bc bs pr px 65 [some (.ref a0), none, none, none] [] h := by
  refine x_aload_n d_Model_near_65 rfl rfl ?_
  exact k
theorem s_Model_near_69 {G : xw_G} {F L bc bs : Nat} {pr : Option Value → xw_A → Prop} {px : String → xw_A → Prop} {h : xw_A} {a0 : Nat}  (k : xw G m_Model_near F L bc bs pr px 41 [some (.ref a0), none, none, none] [] h) : xw G m_Model_near F L bc bs pr px 69 [some (.ref a0), none, none, none] [] h := by
  refine x_goto (tgt := 41) d_Model_near_69 (by decide) ?_
  exact k
theorem s_Model_near_72 {G : xw_G} {F L bc bs : Nat} {pr : Option Value → xw_A → Prop} {px : String → xw_A → Prop} {h : xw_A} {a0 : Nat} {fs_a0 : List Value} {bad_a0 : Int32} (l_a0 : fs_a0.length = 62) (e_a0 : h a0 = some (.inr (11, fs_a0))) (g_a0_bad : fs_a0[(33 : Nat)]? = some (.int bad_a0)) (kt : bad_a0 < 0 → xw G m_Model_near F L bc bs pr px 80 [some (.ref a0), none, none, none] [] h) (kf : ¬ bad_a0 < 0 → xw G m_Model_near F L bc bs pr px 79 [none, none, none, none] [] h) : xw G m_Model_near F L bc bs pr px 72 [some (.ref a0), none, none, none] [] h := by
  refine x_aload_n d_Model_near_72 rfl rfl ?_
  refine x_get d_Model_near_73 f_Model_71 e_a0 g_a0_bad ?_
  refine x_if_lt (tgt := 80) d_Model_near_76 (by decide) (fun hc => ?_) (fun hc => ?_)
  · exact kt hc
  · exact x_le (lv' := [none, none, none, none]) (xw_le_n (xw_le_n (xw_le_n (xw_le_n xw_le_e)))) (kf hc)
theorem s_Model_near_79 {G : xw_G} {F L bc bs : Nat} {pr : Option Value → xw_A → Prop} {px : String → xw_A → Prop} {h : xw_A}   (kr : pr none h) : xw G m_Model_near F L bc bs pr px 79 [none, none, none, none] [] h := by
  exact x_vret d_Model_near_79 rfl kr
theorem s_Model_near_80 {G : xw_G} {F L bc bs : Nat} {pr : Option Value → xw_A → Prop} {px : String → xw_A → Prop} {h : xw_A} {a0 : Nat} {fs_a0 : List Value} {kind_a0 : Int32} (l_a0 : fs_a0.length = 62) (e_a0 : h a0 = some (.inr (11, fs_a0))) (g_a0_kind : fs_a0[(29 : Nat)]? = some (.int kind_a0)) (kt : ¬ kind_a0 = 10 → xw G m_Model_near F L bc bs pr px 269 [some (.ref a0), none, none, none] [] h) (kf : kind_a0 = 10 → xw G m_Model_near F L bc bs pr px 89 [some (.ref a0), none, none, none] [] h) : xw G m_Model_near F L bc bs pr px 80 [some (.ref a0), none, none, none] [] h := by
  refine x_aload_n d_Model_near_80 rfl rfl ?_
  refine x_get d_Model_near_81 f_Model_227 e_a0 g_a0_kind ?_
  refine x_bipush (v := 10) d_Model_near_84 (by decide) ?_
  refine x_icmp_ne (tgt := 269) d_Model_near_86 (by decide) (fun hc => ?_) (fun hc => ?_)
  · exact kt hc
  · exact kf hc
theorem s_Model_near_89 {G : xw_G} {F L bc bs : Nat} {pr : Option Value → xw_A → Prop} {px : String → xw_A → Prop} {h : xw_A} {a0 : Nat}  (k : xw G m_Model_near F L bc bs pr px 90 [some (.ref a0), none, none, none] [.ref a0] h) : xw G m_Model_near F L bc bs pr px 89 [some (.ref a0), none, none, none] [] h := by
  refine x_aload_n d_Model_near_89 rfl rfl ?_
  exact k
theorem s_Model_near_93 {G : xw_G} {F L bc bs : Nat} {pr : Option Value → xw_A → Prop} {px : String → xw_A → Prop} {h : xw_A} {a0 : Nat} {fs_a0 : List Value} {from_a0 : Int32} (l_a0 : fs_a0.length = 62) (e_a0 : h a0 = some (.inr (11, fs_a0))) (g_a0_from : fs_a0[(30 : Nat)]? = some (.int from_a0)) (k : xw G m_Model_near F L bc bs pr px 98 [some (.ref a0), none, none, none] [.int from_a0, .ref a0] h) : xw G m_Model_near F L bc bs pr px 93 [some (.ref a0), none, none, none] [] h := by
  refine x_aload_n d_Model_near_93 rfl rfl ?_
  refine x_aload_n d_Model_near_94 rfl rfl ?_
  refine x_get d_Model_near_95 f_Model_218 e_a0 g_a0_from ?_
  exact k
theorem s_Model_near_101 {G : xw_G} {F L bc bs : Nat} {pr : Option Value → xw_A → Prop} {px : String → xw_A → Prop} {h : xw_A} {a0 : Nat} {y0 : Int32} {fs_a0 : List Value} {from_a0 : Int32} (l_a0 : fs_a0.length = 62) (e_a0 : h a0 = some (.inr (11, fs_a0))) (g_a0_from : fs_a0[(30 : Nat)]? = some (.int from_a0)) (k : xw G m_Model_near F L bc bs pr px 112 [some (.ref a0), some (.int (y0 - 48)), none, none] [.int (from_a0 + 1), .ref a0] h) : xw G m_Model_near F L bc bs pr px 101 [some (.ref a0), none, none, none] [.int y0] h := by
  refine x_bipush (v := 48) d_Model_near_101 (by decide) ?_
  refine x_isub d_Model_near_103 ?_
  refine x_istore_n d_Model_near_104 rfl (by decide) rfl ?_
  show xw G m_Model_near F L bc bs pr px 105 [some (.ref a0), some (.int (y0 - 48)), none, none] [] h
  refine x_aload_n d_Model_near_105 rfl rfl ?_
  refine x_aload_n d_Model_near_106 rfl rfl ?_
  refine x_get d_Model_near_107 f_Model_218 e_a0 g_a0_from ?_
  refine x_iconst (v := 1) d_Model_near_110 (by decide) ?_
  refine x_iadd d_Model_near_111 ?_
  exact k
theorem s_Model_near_115 {G : xw_G} {F L bc bs : Nat} {pr : Option Value → xw_A → Prop} {px : String → xw_A → Prop} {h : xw_A} {a0 : Nat} {x1 : Int32} {y0 : Int32} {fs_a0 : List Value} {kind_a0 : Int32} (l_a0 : fs_a0.length = 62) (e_a0 : h a0 = some (.inr (11, fs_a0))) (g_a0_kind : fs_a0[(29 : Nat)]? = some (.int kind_a0)) (kt : ¬ kind_a0 = 1 → xw G m_Model_near F L bc bs pr px 177 [some (.ref a0), some (.int x1), some (.int (y0 - 48)), none] [] h) (kf : kind_a0 = 1 → xw G m_Model_near F L bc bs pr px 127 [some (.ref a0), some (.int x1), some (.int (y0 - 48)), none] [] h) : xw G m_Model_near F L bc bs pr px 115 [some (.ref a0), some (.int x1), none, none] [.int y0] h := by
  refine x_bipush (v := 48) d_Model_near_115 (by decide) ?_
  refine x_isub d_Model_near_117 ?_
  refine x_istore_n d_Model_near_118 rfl (by decide) rfl ?_
  show xw G m_Model_near F L bc bs pr px 119 [some (.ref a0), some (.int x1), some (.int (y0 - 48)), none] [] h
  refine x_aload_n d_Model_near_119 rfl rfl ?_
  refine x_get d_Model_near_120 f_Model_227 e_a0 g_a0_kind ?_
  refine x_iconst (v := 1) d_Model_near_123 (by decide) ?_
  refine x_icmp_ne (tgt := 177) d_Model_near_124 (by decide) (fun hc => ?_) (fun hc => ?_)
  · exact kt hc
  · exact kf hc
theorem s_Model_near_127 {G : xw_G} {F L bc bs : Nat} {pr : Option Value → xw_A → Prop} {px : String → xw_A → Prop} {h : xw_A} {a0 : Nat} {x1 : Int32} {x2 : Int32}  (k : xw G m_Model_near F L bc bs pr px 131 [some (.ref a0), some (.int x1), some (.int x2), none] [.int 9, .int 0, .int x1] h) : xw G m_Model_near F L bc bs pr px 127 [some (.ref a0), some (.int x1), some (.int x2), none] [] h := by
  refine x_iload_n d_Model_near_127 rfl rfl ?_
  refine x_iconst (v := 0) d_Model_near_128 (by decide) ?_
  refine x_bipush (v := 9) d_Model_near_129 (by decide) ?_
  exact k
theorem s_Model_near_134 {G : xw_G} {F L bc bs : Nat} {pr : Option Value → xw_A → Prop} {px : String → xw_A → Prop} {h : xw_A} {a0 : Nat} {x1 : Int32} {x2 : Int32} {y0 : Int32}  (kt : y0 = 0 → xw G m_Model_near F L bc bs pr px 177 [some (.ref a0), some (.int x1), some (.int x2), none] [] h) (kf : ¬ y0 = 0 → xw G m_Model_near F L bc bs pr px 137 [some (.ref a0), some (.int x1), some (.int x2), none] [] h) : xw G m_Model_near F L bc bs pr px 134 [some (.ref a0), some (.int x1), some (.int x2), none] [.int y0] h := by
  refine x_if_eq (tgt := 177) d_Model_near_134 (by decide) (fun hc => ?_) (fun hc => ?_)
  · exact kt hc
  · exact kf hc
theorem s_Model_near_137 {G : xw_G} {F L bc bs : Nat} {pr : Option Value → xw_A → Prop} {px : String → xw_A → Prop} {h : xw_A} {a0 : Nat} {x1 : Int32} {x2 : Int32} {fs_a0 : List Value} {to_a0 : Int32} {from_a0 : Int32} (l_a0 : fs_a0.length = 62) (e_a0 : h a0 = some (.inr (11, fs_a0))) (g_a0_to : fs_a0[(31 : Nat)]? = some (.int to_a0)) (g_a0_from : fs_a0[(30 : Nat)]? = some (.int from_a0)) (kt : (to_a0 - from_a0) = 1 → xw G m_Model_near F L bc bs pr px 173 [some (.ref a0), some (.int x1), some (.int x2), none] [] h) (kf : ¬ (to_a0 - from_a0) = 1 → xw G m_Model_near F L bc bs pr px 150 [some (.ref a0), some (.int x1), some (.int x2), none] [] h) : xw G m_Model_near F L bc bs pr px 137 [some (.ref a0), some (.int x1), some (.int x2), none] [] h := by
  refine x_aload_n d_Model_near_137 rfl rfl ?_
  refine x_get d_Model_near_138 f_Model_215 e_a0 g_a0_to ?_
  refine x_aload_n d_Model_near_141 rfl rfl ?_
  refine x_get d_Model_near_142 f_Model_218 e_a0 g_a0_from ?_
  refine x_isub d_Model_near_145 ?_
  refine x_iconst (v := 1) d_Model_near_146 (by decide) ?_
  refine x_icmp_eq (tgt := 173) d_Model_near_147 (by decide) (fun hc => ?_) (fun hc => ?_)
  · exact kt hc
  · exact kf hc
theorem s_Model_near_150 {G : xw_G} {F L bc bs : Nat} {pr : Option Value → xw_A → Prop} {px : String → xw_A → Prop} {h : xw_A} {a0 : Nat} {x1 : Int32} {x2 : Int32} {fs_a0 : List Value} {to_a0 : Int32} {from_a0 : Int32} (l_a0 : fs_a0.length = 62) (e_a0 : h a0 = some (.inr (11, fs_a0))) (g_a0_to : fs_a0[(31 : Nat)]? = some (.int to_a0)) (g_a0_from : fs_a0[(30 : Nat)]? = some (.int from_a0)) (kt : ¬ (to_a0 - from_a0) = 2 → xw G m_Model_near F L bc bs pr px 177 [some (.ref a0), some (.int x1), some (.int x2), none] [] h) (kf : (to_a0 - from_a0) = 2 → xw G m_Model_near F L bc bs pr px 163 [some (.ref a0), some (.int x1), some (.int x2), none] [] h) : xw G m_Model_near F L bc bs pr px 150 [some (.ref a0), some (.int x1), some (.int x2), none] [] h := by
  refine x_aload_n d_Model_near_150 rfl rfl ?_
  refine x_get d_Model_near_151 f_Model_215 e_a0 g_a0_to ?_
  refine x_aload_n d_Model_near_154 rfl rfl ?_
  refine x_get d_Model_near_155 f_Model_218 e_a0 g_a0_from ?_
  refine x_isub d_Model_near_158 ?_
  refine x_iconst (v := 2) d_Model_near_159 (by decide) ?_
  refine x_icmp_ne (tgt := 177) d_Model_near_160 (by decide) (fun hc => ?_) (fun hc => ?_)
  · exact kt hc
  · exact kf hc
theorem s_Model_near_163 {G : xw_G} {F L bc bs : Nat} {pr : Option Value → xw_A → Prop} {px : String → xw_A → Prop} {h : xw_A} {a0 : Nat} {x1 : Int32} {x2 : Int32}  (k : xw G m_Model_near F L bc bs pr px 167 [some (.ref a0), some (.int x1), some (.int x2), none] [.int 9, .int 0, .int x2] h) : xw G m_Model_near F L bc bs pr px 163 [some (.ref a0), some (.int x1), some (.int x2), none] [] h := by
  refine x_iload_n d_Model_near_163 rfl rfl ?_
  refine x_iconst (v := 0) d_Model_near_164 (by decide) ?_
  refine x_bipush (v := 9) d_Model_near_165 (by decide) ?_
  exact k
theorem s_Model_near_170 {G : xw_G} {F L bc bs : Nat} {pr : Option Value → xw_A → Prop} {px : String → xw_A → Prop} {h : xw_A} {a0 : Nat} {x1 : Int32} {x2 : Int32} {y0 : Int32}  (kt : y0 = 0 → xw G m_Model_near F L bc bs pr px 177 [some (.ref a0), some (.int x1), some (.int x2), none] [] h) (kf : ¬ y0 = 0 → xw G m_Model_near F L bc bs pr px 173 [some (.ref a0), some (.int x1), some (.int x2), none] [] h) : xw G m_Model_near F L bc bs pr px 170 [some (.ref a0), some (.int x1), some (.int x2), none] [.int y0] h := by
  refine x_if_eq (tgt := 177) d_Model_near_170 (by decide) (fun hc => ?_) (fun hc => ?_)
  · exact kt hc
  · exact kf hc
theorem s_Model_near_173 {G : xw_G} {F L bc bs : Nat} {pr : Option Value → xw_A → Prop} {px : String → xw_A → Prop} {h : xw_A} {a0 : Nat} {x1 : Int32} {x2 : Int32}  (k : xw G m_Model_near F L bc bs pr px 178 [some (.ref a0), some (.int x1), some (.int x2), none] [.int 1] h) : xw G m_Model_near F L bc bs pr px 173 [some (.ref a0), some (.int x1), some (.int x2), none] [] h := by
  refine x_iconst (v := 1) d_Model_near_173 (by decide) ?_
  refine x_goto (tgt := 178) d_Model_near_174 (by decide) ?_
  exact k
theorem s_Model_near_177 {G : xw_G} {F L bc bs : Nat} {pr : Option Value → xw_A → Prop} {px : String → xw_A → Prop} {h : xw_A} {a0 : Nat} {x1 : Int32} {x2 : Int32}  (k : xw G m_Model_near F L bc bs pr px 178 [some (.ref a0), some (.int x1), some (.int x2), none] [.int 0] h) : xw G m_Model_near F L bc bs pr px 177 [some (.ref a0), some (.int x1), some (.int x2), none] [] h := by
  refine x_iconst (v := 0) d_Model_near_177 (by decide) ?_
  exact k
theorem s_Model_near_178 {G : xw_G} {F L bc bs : Nat} {pr : Option Value → xw_A → Prop} {px : String → xw_A → Prop} {h : xw_A} {a0 : Nat} {x1 : Int32} {x2 : Int32} {y0 : Int32}  (kt : ¬ y0 = 0 → xw G m_Model_near F L bc bs pr px 188 [some (.ref a0), some (.int x1), some (.int x2), none] [.ref a0] h) (kf : y0 = 0 → xw G m_Model_near F L bc bs pr px 184 [some (.ref a0), some (.int x1), some (.int x2), none] [.ref a0] h) : xw G m_Model_near F L bc bs pr px 178 [some (.ref a0), some (.int x1), some (.int x2), none] [.int y0] h := by
  refine x_istore_n d_Model_near_178 rfl (by decide) rfl ?_
  show xw G m_Model_near F L bc bs pr px 179 [some (.ref a0), some (.int x1), some (.int x2), some (.int y0)] [] h
  refine x_aload_n d_Model_near_179 rfl rfl ?_
  refine x_iload_n d_Model_near_180 rfl rfl ?_
  refine x_if_ne (tgt := 188) d_Model_near_181 (by decide) (fun hc => ?_) (fun hc => ?_)
  · exact x_le (lv' := [some (.ref a0), some (.int x1), some (.int x2), none]) (xw_le_s (xw_le_s (xw_le_s (xw_le_n xw_le_e)))) (kt hc)
  · exact x_le (lv' := [some (.ref a0), some (.int x1), some (.int x2), none]) (xw_le_s (xw_le_s (xw_le_s (xw_le_n xw_le_e)))) (kf hc)
theorem s_Model_near_184 {G : xw_G} {F L bc bs : Nat} {pr : Option Value → xw_A → Prop} {px : String → xw_A → Prop} {h : xw_A} {a0 : Nat} {x1 : Int32} {x2 : Int32}  (k : xw G m_Model_near F L bc bs pr px 189 [some (.ref a0), some (.int x1), some (.int x2), none] [.int 1, .ref a0] h) : xw G m_Model_near F L bc bs pr px 184 [some (.ref a0), some (.int x1), some (.int x2), none] [.ref a0] h := by
  refine x_iconst (v := 1) d_Model_near_184 (by decide) ?_
  refine x_goto (tgt := 189) d_Model_near_185 (by decide) ?_
  exact k
theorem s_Model_near_188 {G : xw_G} {F L bc bs : Nat} {pr : Option Value → xw_A → Prop} {px : String → xw_A → Prop} {h : xw_A} {a0 : Nat} {x1 : Int32} {x2 : Int32}  (k : xw G m_Model_near F L bc bs pr px 189 [some (.ref a0), some (.int x1), some (.int x2), none] [.int 0, .ref a0] h) : xw G m_Model_near F L bc bs pr px 188 [some (.ref a0), some (.int x1), some (.int x2), none] [.ref a0] h := by
  refine x_iconst (v := 0) d_Model_near_188 (by decide) ?_
  exact k
theorem s_Model_near_189 {G : xw_G} {F L bc bs : Nat} {pr : Option Value → xw_A → Prop} {px : String → xw_A → Prop} {h : xw_A} {a0 : Nat} {x1 : Int32} {x2 : Int32} {y0 : Int32} {fs_a0 : List Value} {from_a0 : Int32} (l_a0 : fs_a0.length = 62) (e_a0 : h a0 = some (.inr (11, fs_a0))) (g_a0_from : fs_a0[(30 : Nat)]? = some (.int from_a0)) (k : xw G m_Model_near F L bc bs pr px 193 [some (.ref a0), some (.int x1), some (.int x2), none] [.int from_a0, .int y0, .ref a0] h) : xw G m_Model_near F L bc bs pr px 189 [some (.ref a0), some (.int x1), some (.int x2), none] [.int y0, .ref a0] h := by
  refine x_aload_n d_Model_near_189 rfl rfl ?_
  refine x_get d_Model_near_190 f_Model_218 e_a0 g_a0_from ?_
  exact k
theorem s_Model_near_196 {G : xw_G} {F L bc bs : Nat} {pr : Option Value → xw_A → Prop} {px : String → xw_A → Prop} {h : xw_A} {a0 : Nat} {x1 : Int32} {x2 : Int32} {fs_a0 : List Value} {bad_a0 : Int32} (l_a0 : fs_a0.length = 62) (e_a0 : h a0 = some (.inr (11, fs_a0))) (g_a0_bad : fs_a0[(33 : Nat)]? = some (.int bad_a0)) (kt : bad_a0 < 0 → xw G m_Model_near F L bc bs pr px 204 [some (.ref a0), some (.int x1), some (.int x2), none] [] h) (kf : ¬ bad_a0 < 0 → xw G m_Model_near F L bc bs pr px 203 [none, none, none, none] [] h) : xw G m_Model_near F L bc bs pr px 196 [some (.ref a0), some (.int x1), some (.int x2), none] [] h := by
  refine x_aload_n d_Model_near_196 rfl rfl ?_
  refine x_get d_Model_near_197 f_Model_71 e_a0 g_a0_bad ?_
  refine x_if_lt (tgt := 204) d_Model_near_200 (by decide) (fun hc => ?_) (fun hc => ?_)
  · exact kt hc
  · exact x_le (lv' := [none, none, none, none]) (xw_le_n (xw_le_n (xw_le_n (xw_le_n xw_le_e)))) (kf hc)
theorem s_Model_near_203 {G : xw_G} {F L bc bs : Nat} {pr : Option Value → xw_A → Prop} {px : String → xw_A → Prop} {h : xw_A}   (kr : pr none h) : xw G m_Model_near F L bc bs pr px 203 [none, none, none, none] [] h := by
  exact x_vret d_Model_near_203 rfl kr
theorem s_Model_near_204 {G : xw_G} {F L bc bs : Nat} {pr : Option Value → xw_A → Prop} {px : String → xw_A → Prop} {h : xw_A} {a0 : Nat} {x1 : Int32} {x2 : Int32} {fs_a0 : List Value} {groupFar_a0 : Option Nat} {groups_a0 : Int32} {to_a0 : Int32} {from_a0 : Int32} (l_a0 : fs_a0.length = 62) (e_a0 : h a0 = some (.inr (11, fs_a0))) (g_a0_groupFar : fs_a0[(49 : Nat)]? = some (va_rf groupFar_a0)) (g_a0_groups : fs_a0[(36 : Nat)]? = some (.int groups_a0)) (g_a0_to : fs_a0[(31 : Nat)]? = some (.int to_a0)) (g_a0_from : fs_a0[(30 : Nat)]? = some (.int from_a0)) (kt : ¬ (to_a0 - from_a0) = 1 → xw G m_Model_near F L bc bs pr px 229 [some (.ref a0), some (.int x1), some (.int x2), none] [.int groups_a0, va_rf groupFar_a0] h) (kf : (to_a0 - from_a0) = 1 → xw G m_Model_near F L bc bs pr px 225 [some (.ref a0), some (.int x1), none, none] [.int groups_a0, va_rf groupFar_a0] h) : xw G m_Model_near F L bc bs pr px 204 [some (.ref a0), some (.int x1), some (.int x2), none] [] h := by
  refine x_aload_n d_Model_near_204 rfl rfl ?_
  refine x_get d_Model_near_205 f_Model_98 e_a0 g_a0_groupFar ?_
  refine x_aload_n d_Model_near_208 rfl rfl ?_
  refine x_get d_Model_near_209 f_Model_263 e_a0 g_a0_groups ?_
  refine x_aload_n d_Model_near_212 rfl rfl ?_
  refine x_get d_Model_near_213 f_Model_215 e_a0 g_a0_to ?_
  refine x_aload_n d_Model_near_216 rfl rfl ?_
  refine x_get d_Model_near_217 f_Model_218 e_a0 g_a0_from ?_
  refine x_isub d_Model_near_220 ?_
  refine x_iconst (v := 1) d_Model_near_221 (by decide) ?_
  refine x_icmp_ne (tgt := 229) d_Model_near_222 (by decide) (fun hc => ?_) (fun hc => ?_)
  · exact kt hc
  · exact x_le (lv' := [some (.ref a0), some (.int x1), none, none]) (xw_le_s (xw_le_s (xw_le_n (xw_le_n xw_le_e)))) (kf hc)
theorem s_Model_near_225 {G : xw_G} {F L bc bs : Nat} {pr : Option Value → xw_A → Prop} {px : String → xw_A → Prop} {h : xw_A} {a0 : Nat} {x1 : Int32} {y0 : Int32} {b1 : Nat}  (k : xw G m_Model_near F L bc bs pr px 235 [some (.ref a0), none, none, none] [.int x1, .int y0, .ref b1] h) : xw G m_Model_near F L bc bs pr px 225 [some (.ref a0), some (.int x1), none, none] [.int y0, .ref b1] h := by
  refine x_iload_n d_Model_near_225 rfl rfl ?_
  refine x_goto (tgt := 235) d_Model_near_226 (by decide) ?_
  exact x_le (lv' := [some (.ref a0), none, none, none]) (xw_le_s (xw_le_n (xw_le_n (xw_le_n xw_le_e)))) (k)
theorem s_Model_near_229 {G : xw_G} {F L bc bs : Nat} {pr : Option Value → xw_A → Prop} {px : String → xw_A → Prop} {h : xw_A} {a0 : Nat} {x1 : Int32} {x2 : Int32} {y0 : Int32} {b1 : Nat}  (k : xw G m_Model_near F L bc bs pr px 235 [some (.ref a0), none, none, none] [.int ((10 * x1) + x2), .int y0, .ref b1] h) : xw G m_Model_near F L bc bs pr px 229 [some (.ref a0), some (.int x1), some (.int x2), none] [.int y0, .ref b1] h := by
  refine x_bipush (v := 10) d_Model_near_229 (by decide) ?_
  refine x_iload_n d_Model_near_231 rfl rfl ?_
  refine x_imul d_Model_near_232 ?_
  refine x_iload_n d_Model_near_233 rfl rfl ?_
  refine x_iadd d_Model_near_234 ?_
  exact x_le (lv' := [some (.ref a0), none, none, none]) (xw_le_s (xw_le_n (xw_le_n (xw_le_n xw_le_e)))) (k)
theorem s_Model_near_235 {G : xw_G} {F L bc bs : Nat} {pr : Option Value → xw_A → Prop} {px : String → xw_A → Prop} {h : xw_A} {a0 : Nat} {y0 : Int32} {y1 : Int32} {b2 : Nat} {n_b2 : Nat} {f_b2 : Nat → Int32} (e_b2 : h b2 = some (.inl (0, n_b2, .inl f_b2))) (i_235 : vp_in y1 n_b2) (k : xw G m_Model_near F L bc bs pr px 237 [some (.ref a0), none, none, none] [.ref a0] (xw_up h b2 (.inl (0, n_b2, .inl (upd f_b2 (y1).toNatClampNeg y0))))) : xw G m_Model_near F L bc bs pr px 235 [some (.ref a0), none, none, none] [.int y0, .int y1, .ref b2] h := by
  refine x_iast d_Model_near_235 e_b2 i_235 ?_
  refine x_aload_n d_Model_near_236 rfl rfl ?_
  exact k
theorem s_Model_near_240 {G : xw_G} {F L bc bs : Nat} {pr : Option Value → xw_A → Prop} {px : String → xw_A → Prop} {h : xw_A} {a0 : Nat} {fs_a0 : List Value} {kind_a0 : Int32} (l_a0 : fs_a0.length = 62) (e_a0 : h a0 = some (.inr (11, fs_a0))) (g_a0_kind : fs_a0[(29 : Nat)]? = some (.int kind_a0)) (kt : kind_a0 = 4 → xw G m_Model_near F L bc bs pr px 253 [some (.ref a0), none, none, none] [.ref a0] h) (kf : ¬ kind_a0 = 4 → xw G m_Model_near F L bc bs pr px 249 [some (.ref a0), none, none, none] [.ref a0] h) : xw G m_Model_near F L bc bs pr px 240 [some (.ref a0), none, none, none] [] h := by
  refine x_aload_n d_Model_near_240 rfl rfl ?_
  refine x_aload_n d_Model_near_241 rfl rfl ?_
  refine x_get d_Model_near_242 f_Model_227 e_a0 g_a0_kind ?_
  refine x_iconst (v := 4) d_Model_near_245 (by decide) ?_
  refine x_icmp_eq (tgt := 253) d_Model_near_246 (by decide) (fun hc => ?_) (fun hc => ?_)
  · exact kt hc
  · exact kf hc
theorem s_Model_near_249 {G : xw_G} {F L bc bs : Nat} {pr : Option Value → xw_A → Prop} {px : String → xw_A → Prop} {h : xw_A} {a0 : Nat}  (k : xw G m_Model_near F L bc bs pr px 254 [some (.ref a0), none, none, none] [.int 1, .ref a0] h) : xw G m_Model_near F L bc bs pr px 249 [some (.ref a0), none, none, none] [.ref a0] h := by
  refine x_iconst (v := 1) d_Model_near_249 (by decide) ?_
  refine x_goto (tgt := 254) d_Model_near_250 (by decide) ?_
  exact k
theorem s_Model_near_253 {G : xw_G} {F L bc bs : Nat} {pr : Option Value → xw_A → Prop} {px : String → xw_A → Prop} {h : xw_A} {a0 : Nat}  (k : xw G m_Model_near F L bc bs pr px 254 [some (.ref a0), none, none, none] [.int 0, .ref a0] h) : xw G m_Model_near F L bc bs pr px 253 [some (.ref a0), none, none, none] [.ref a0] h := by
  refine x_iconst (v := 0) d_Model_near_253 (by decide) ?_
  exact k
theorem s_Model_near_254 {G : xw_G} {F L bc bs : Nat} {pr : Option Value → xw_A → Prop} {px : String → xw_A → Prop} {h : xw_A} {a0 : Nat} {y0 : Int32} {fs_a0 : List Value} {from_a0 : Int32} (l_a0 : fs_a0.length = 62) (e_a0 : h a0 = some (.inr (11, fs_a0))) (g_a0_from : fs_a0[(30 : Nat)]? = some (.int from_a0)) (k : xw G m_Model_near F L bc bs pr px 258 [some (.ref a0), none, none, none] [.int from_a0, .int y0, .ref a0] h) : xw G m_Model_near F L bc bs pr px 254 [some (.ref a0), none, none, none] [.int y0, .ref a0] h := by
  refine x_aload_n d_Model_near_254 rfl rfl ?_
  refine x_get d_Model_near_255 f_Model_218 e_a0 g_a0_from ?_
  exact k
theorem s_Model_near_261 {G : xw_G} {F L bc bs : Nat} {pr : Option Value → xw_A → Prop} {px : String → xw_A → Prop} {h : xw_A} {a0 : Nat} {fs_a0 : List Value} {bad_a0 : Int32} (l_a0 : fs_a0.length = 62) (e_a0 : h a0 = some (.inr (11, fs_a0))) (g_a0_bad : fs_a0[(33 : Nat)]? = some (.int bad_a0)) (kt : bad_a0 < 0 → xw G m_Model_near F L bc bs pr px 269 [some (.ref a0), none, none, none] [] h) (kf : ¬ bad_a0 < 0 → xw G m_Model_near F L bc bs pr px 268 [none, none, none, none] [] h) : xw G m_Model_near F L bc bs pr px 261 [some (.ref a0), none, none, none] [] h := by
  refine x_aload_n d_Model_near_261 rfl rfl ?_
  refine x_get d_Model_near_262 f_Model_71 e_a0 g_a0_bad ?_
  refine x_if_lt (tgt := 269) d_Model_near_265 (by decide) (fun hc => ?_) (fun hc => ?_)
  · exact kt hc
  · exact x_le (lv' := [none, none, none, none]) (xw_le_n (xw_le_n (xw_le_n (xw_le_n xw_le_e)))) (kf hc)
theorem s_Model_near_268 {G : xw_G} {F L bc bs : Nat} {pr : Option Value → xw_A → Prop} {px : String → xw_A → Prop} {h : xw_A}   (kr : pr none h) : xw G m_Model_near F L bc bs pr px 268 [none, none, none, none] [] h := by
  exact x_vret d_Model_near_268 rfl kr
theorem s_Model_near_269 {G : xw_G} {F L bc bs : Nat} {pr : Option Value → xw_A → Prop} {px : String → xw_A → Prop} {h : xw_A} {a0 : Nat}  (k : xw G m_Model_near F L bc bs pr px 270 [some (.ref a0), none, none, none] [.ref a0] h) : xw G m_Model_near F L bc bs pr px 269 [some (.ref a0), none, none, none] [] h := by
  refine x_aload_n d_Model_near_269 rfl rfl ?_
  exact k
theorem s_Model_near_273 {G : xw_G} {F L bc bs : Nat} {pr : Option Value → xw_A → Prop} {px : String → xw_A → Prop} {h : xw_A}   (kr : pr none h) : xw G m_Model_near F L bc bs pr px 273 [none, none, none, none] [] h := by
  exact x_vret d_Model_near_273 rfl kr
theorem s_Model_phrase_0 {G : xw_G} {F L bc bs : Nat} {pr : Option Value → xw_A → Prop} {px : String → xw_A → Prop} {h : xw_A} {a0 : Nat}  (k : xw G m_Model_phrase F L bc bs pr px 2 [some (.ref a0)] [.ref a0, .ref a0] h) : xw G m_Model_phrase F L bc bs pr px 0 [some (.ref a0)] [] h := by
  refine x_aload_n d_Model_phrase_0 rfl rfl ?_
  refine x_aload_n d_Model_phrase_1 rfl rfl ?_
  exact k
theorem s_Model_phrase_5 {G : xw_G} {F L bc bs : Nat} {pr : Option Value → xw_A → Prop} {px : String → xw_A → Prop} {h : xw_A} {a0 : Nat} {y0 : Int32}  (kt : y0 = 0 → xw G m_Model_phrase F L bc bs pr px 17 [some (.ref a0)] [.ref a0] h) (kf : ¬ y0 = 0 → xw G m_Model_phrase F L bc bs pr px 8 [some (.ref a0)] [.ref a0] h) : xw G m_Model_phrase F L bc bs pr px 5 [some (.ref a0)] [.int y0, .ref a0] h := by
  refine x_if_eq (tgt := 17) d_Model_phrase_5 (by decide) (fun hc => ?_) (fun hc => ?_)
  · exact kt hc
  · exact kf hc
theorem s_Model_phrase_8 {G : xw_G} {F L bc bs : Nat} {pr : Option Value → xw_A → Prop} {px : String → xw_A → Prop} {h : xw_A} {a0 : Nat} {fs_a0 : List Value} {phrases_a0 : Int32} (l_a0 : fs_a0.length = 62) (e_a0 : h a0 = some (.inr (11, fs_a0))) (g_a0_phrases : fs_a0[(34 : Nat)]? = some (.int phrases_a0)) (kt : ¬ phrases_a0 = 12 → xw G m_Model_phrase F L bc bs pr px 21 [some (.ref a0)] [.ref a0] h) (kf : phrases_a0 = 12 → xw G m_Model_phrase F L bc bs pr px 17 [some (.ref a0)] [.ref a0] h) : xw G m_Model_phrase F L bc bs pr px 8 [some (.ref a0)] [.ref a0] h := by
  refine x_aload_n d_Model_phrase_8 rfl rfl ?_
  refine x_get d_Model_phrase_9 f_Model_247 e_a0 g_a0_phrases ?_
  refine x_bipush (v := 12) d_Model_phrase_12 (by decide) ?_
  refine x_icmp_ne (tgt := 21) d_Model_phrase_14 (by decide) (fun hc => ?_) (fun hc => ?_)
  · exact kt hc
  · exact kf hc
theorem s_Model_phrase_17 {G : xw_G} {F L bc bs : Nat} {pr : Option Value → xw_A → Prop} {px : String → xw_A → Prop} {h : xw_A} {a0 : Nat}  (k : xw G m_Model_phrase F L bc bs pr px 22 [some (.ref a0)] [.int 1, .ref a0] h) : xw G m_Model_phrase F L bc bs pr px 17 [some (.ref a0)] [.ref a0] h := by
  refine x_iconst (v := 1) d_Model_phrase_17 (by decide) ?_
  refine x_goto (tgt := 22) d_Model_phrase_18 (by decide) ?_
  exact k
theorem s_Model_phrase_21 {G : xw_G} {F L bc bs : Nat} {pr : Option Value → xw_A → Prop} {px : String → xw_A → Prop} {h : xw_A} {a0 : Nat}  (k : xw G m_Model_phrase F L bc bs pr px 22 [some (.ref a0)] [.int 0, .ref a0] h) : xw G m_Model_phrase F L bc bs pr px 21 [some (.ref a0)] [.ref a0] h := by
  refine x_iconst (v := 0) d_Model_phrase_21 (by decide) ?_
  exact k
theorem s_Model_phrase_22 {G : xw_G} {F L bc bs : Nat} {pr : Option Value → xw_A → Prop} {px : String → xw_A → Prop} {h : xw_A} {a0 : Nat} {y0 : Int32} {fs_a0 : List Value} {from_a0 : Int32} (l_a0 : fs_a0.length = 62) (e_a0 : h a0 = some (.inr (11, fs_a0))) (g_a0_from : fs_a0[(30 : Nat)]? = some (.int from_a0)) (k : xw G m_Model_phrase F L bc bs pr px 26 [some (.ref a0)] [.int from_a0, .int y0, .ref a0] h) : xw G m_Model_phrase F L bc bs pr px 22 [some (.ref a0)] [.int y0, .ref a0] h := by
  refine x_aload_n d_Model_phrase_22 rfl rfl ?_
  refine x_get d_Model_phrase_23 f_Model_218 e_a0 g_a0_from ?_
  exact k
theorem s_Model_phrase_29 {G : xw_G} {F L bc bs : Nat} {pr : Option Value → xw_A → Prop} {px : String → xw_A → Prop} {h : xw_A} {a0 : Nat} {fs_a0 : List Value} {bad_a0 : Int32} (l_a0 : fs_a0.length = 62) (e_a0 : h a0 = some (.inr (11, fs_a0))) (g_a0_bad : fs_a0[(33 : Nat)]? = some (.int bad_a0)) (kt : bad_a0 < 0 → xw G m_Model_phrase F L bc bs pr px 37 [some (.ref a0)] [] h) (kf : ¬ bad_a0 < 0 → xw G m_Model_phrase F L bc bs pr px 36 [none] [] h) : xw G m_Model_phrase F L bc bs pr px 29 [some (.ref a0)] [] h := by
  refine x_aload_n d_Model_phrase_29 rfl rfl ?_
  refine x_get d_Model_phrase_30 f_Model_71 e_a0 g_a0_bad ?_
  refine x_if_lt (tgt := 37) d_Model_phrase_33 (by decide) (fun hc => ?_) (fun hc => ?_)
  · exact kt hc
  · exact x_le (lv' := [none]) (xw_le_n xw_le_e) (kf hc)
theorem s_Model_phrase_36 {G : xw_G} {F L bc bs : Nat} {pr : Option Value → xw_A → Prop} {px : String → xw_A → Prop} {h : xw_A}   (kr : pr none h) : xw G m_Model_phrase F L bc bs pr px 36 [none] [] h := by
  exact x_vret d_Model_phrase_36 rfl kr
theorem s_Model_phrase_37 {G : xw_G} {F L bc bs : Nat} {pr : Option Value → xw_A → Prop} {px : String → xw_A → Prop} {h : xw_A} {a0 : Nat} {fs_a0 : List Value} {firstToken_a0 : Nat} {phrases_a0 : Int32} {tokens_a0 : Int32} {n_firstToken_a0 : Nat} {f_firstToken_a0 : Nat → Int32} {starred_a0 : Nat} {n_starred_a0 : Nat} {f_starred_a0 : Nat → Int32} (l_a0 : fs_a0.length = 62) (e_a0 : h a0 = some (.inr (11, fs_a0))) (g_a0_firstToken : fs_a0[(41 : Nat)]? = some (.ref firstToken_a0)) (g_a0_phrases : fs_a0[(34 : Nat)]? = some (.int phrases_a0)) (g_a0_tokens : fs_a0[(35 : Nat)]? = some (.int tokens_a0)) (e_firstToken_a0 : h firstToken_a0 = some (.inl (0, n_firstToken_a0, .inl f_firstToken_a0))) (i_49 : vp_in phrases_a0 n_firstToken_a0) (g_a0_starred : fs_a0[(42 : Nat)]? = some (.ref starred_a0)) (e_starred_a0 : h starred_a0 = some (.inl (0, n_starred_a0, .inl f_starred_a0))) (i_59 : vp_in phrases_a0 n_starred_a0) (n_starred_a0_firstToken_a0 : starred_a0 ≠ firstToken_a0) (k : xw G m_Model_phrase F L bc bs pr px 71 [some (.ref a0)] [.ref a0] (xw_up (xw_up (xw_up h firstToken_a0 (.inl (0, n_firstToken_a0, .inl (upd f_firstToken_a0 (phrases_a0).toNatClampNeg tokens_a0)))) starred_a0 (.inl (0, n_starred_a0, .inl (upd f_starred_a0 (phrases_a0).toNatClampNeg 0)))) a0 (.inr (11, (fs_a0.set 34 (.int (phrases_a0 + 1))))))) : xw G m_Model_phrase F L bc bs pr px 37 [some (.ref a0)] [] h := by
  refine x_aload_n d_Model_phrase_37 rfl rfl ?_
  refine x_get d_Model_phrase_38 f_Model_74 e_a0 g_a0_firstToken ?_
  refine x_aload_n d_Model_phrase_41 rfl rfl ?_
  refine x_get d_Model_phrase_42 f_Model_247 e_a0 g_a0_phrases ?_
  refine x_aload_n d_Model_phrase_45 rfl rfl ?_
  refine x_get d_Model_phrase_46 f_Model_241 e_a0 g_a0_tokens ?_
  refine x_iast d_Model_phrase_49 e_firstToken_a0 i_49 ?_
  refine x_aload_n d_Model_phrase_50 rfl rfl ?_
  refine x_get d_Model_phrase_51 f_Model_77 ((xw_up_n _ _ (xw_ne e_a0 e_firstToken_a0 (by simp))).trans e_a0) g_a0_starred ?_
  refine x_aload_n d_Model_phrase_54 rfl rfl ?_
  refine x_get d_Model_phrase_55 f_Model_247 ((xw_up_n _ _ (xw_ne e_a0 e_firstToken_a0 (by simp))).trans e_a0) g_a0_phrases ?_
  refine x_iconst (v := 0) d_Model_phrase_58 (by decide) ?_
  refine x_iast d_Model_phrase_59 ((xw_up_n _ _ n_starred_a0_firstToken_a0).trans e_starred_a0) i_59 ?_
  refine x_aload_n d_Model_phrase_60 rfl rfl ?_
  refine x_dup d_Model_phrase_61 rfl ?_
  refine x_get d_Model_phrase_62 f_Model_247 ((xw_up_n _ _ (xw_ne e_a0 e_starred_a0 (by simp))).trans ((xw_up_n _ _ (xw_ne e_a0 e_firstToken_a0 (by simp))).trans e_a0)) g_a0_phrases ?_
  refine x_iconst (v := 1) d_Model_phrase_65 (by decide) ?_
  refine x_iadd d_Model_phrase_66 ?_
  refine x_put (ty := .int) d_Model_phrase_67 f_Model_247 fw_Model_34.1 fw_Model_34.2 rfl rfl (by simp [l_a0]) ((xw_up_n _ _ (xw_ne e_a0 e_starred_a0 (by simp))).trans ((xw_up_n _ _ (xw_ne e_a0 e_firstToken_a0 (by simp))).trans e_a0)) ?_
  show xw G m_Model_phrase F L bc bs pr px 70 [some (.ref a0)] [] (xw_up (xw_up (xw_up h firstToken_a0 (.inl (0, n_firstToken_a0, .inl (upd f_firstToken_a0 (phrases_a0).toNatClampNeg tokens_a0)))) starred_a0 (.inl (0, n_starred_a0, .inl (upd f_starred_a0 (phrases_a0).toNatClampNeg 0)))) a0 (.inr (11, (fs_a0.set 34 (.int (phrases_a0 + 1))))))
  refine x_aload_n d_Model_phrase_70 rfl rfl ?_
  exact k
theorem s_Model_phrase_74 {G : xw_G} {F L bc bs : Nat} {pr : Option Value → xw_A → Prop} {px : String → xw_A → Prop} {h : xw_A} {a0 : Nat}  (k : xw G m_Model_phrase F L bc bs pr px 75 [some (.ref a0)] [.ref a0] h) : xw G m_Model_phrase F L bc bs pr px 74 [some (.ref a0)] [] h := by
  refine x_aload_n d_Model_phrase_74 rfl rfl ?_
  exact k
theorem s_Model_phrase_78 {G : xw_G} {F L bc bs : Nat} {pr : Option Value → xw_A → Prop} {px : String → xw_A → Prop} {h : xw_A} {a0 : Nat} {fs_a0 : List Value} {kind_a0 : Int32} (l_a0 : fs_a0.length = 62) (e_a0 : h a0 = some (.inr (11, fs_a0))) (g_a0_kind : fs_a0[(29 : Nat)]? = some (.int kind_a0)) (kt : ¬ kind_a0 = 8 → xw G m_Model_phrase F L bc bs pr px 137 [some (.ref a0)] [] h) (kf : kind_a0 = 8 → xw G m_Model_phrase F L bc bs pr px 87 [some (.ref a0)] [] h) : xw G m_Model_phrase F L bc bs pr px 78 [some (.ref a0)] [] h := by
  refine x_aload_n d_Model_phrase_78 rfl rfl ?_
  refine x_get d_Model_phrase_79 f_Model_227 e_a0 g_a0_kind ?_
  refine x_bipush (v := 8) d_Model_phrase_82 (by decide) ?_
  refine x_icmp_ne (tgt := 137) d_Model_phrase_84 (by decide) (fun hc => ?_) (fun hc => ?_)
  · exact kt hc
  · exact kf hc
theorem s_Model_phrase_87 {G : xw_G} {F L bc bs : Nat} {pr : Option Value → xw_A → Prop} {px : String → xw_A → Prop} {h : xw_A} {a0 : Nat} {fs_a0 : List Value} {bad_a0 : Int32} (l_a0 : fs_a0.length = 62) (e_a0 : h a0 = some (.inr (11, fs_a0))) (g_a0_bad : fs_a0[(33 : Nat)]? = some (.int bad_a0)) (kt : 0 ≤ bad_a0 → xw G m_Model_phrase F L bc bs pr px 137 [some (.ref a0)] [] h) (kf : ¬ 0 ≤ bad_a0 → xw G m_Model_phrase F L bc bs pr px 94 [some (.ref a0)] [] h) : xw G m_Model_phrase F L bc bs pr px 87 [some (.ref a0)] [] h := by
  refine x_aload_n d_Model_phrase_87 rfl rfl ?_
  refine x_get d_Model_phrase_88 f_Model_71 e_a0 g_a0_bad ?_
  refine x_if_ge (tgt := 137) d_Model_phrase_91 (by decide) (fun hc => ?_) (fun hc => ?_)
  · exact kt hc
  · exact kf hc
theorem s_Model_phrase_94 {G : xw_G} {F L bc bs : Nat} {pr : Option Value → xw_A → Prop} {px : String → xw_A → Prop} {h : xw_A} {a0 : Nat}  (k : xw G m_Model_phrase F L bc bs pr px 95 [some (.ref a0)] [.ref a0] h) : xw G m_Model_phrase F L bc bs pr px 94 [some (.ref a0)] [] h := by
  refine x_aload_n d_Model_phrase_94 rfl rfl ?_
  exact k
theorem s_Model_phrase_98 {G : xw_G} {F L bc bs : Nat} {pr : Option Value → xw_A → Prop} {px : String → xw_A → Prop} {h : xw_A} {a0 : Nat}  (k : xw G m_Model_phrase F L bc bs pr px 100 [some (.ref a0)] [.ref a0, .ref a0] h) : xw G m_Model_phrase F L bc bs pr px 98 [some (.ref a0)] [] h := by
  refine x_aload_n d_Model_phrase_98 rfl rfl ?_
  refine x_aload_n d_Model_phrase_99 rfl rfl ?_
  exact k
theorem s_Model_phrase_103 {G : xw_G} {F L bc bs : Nat} {pr : Option Value → xw_A → Prop} {px : String → xw_A → Prop} {h : xw_A} {a0 : Nat} {y0 : Int32}  (kt : ¬ y0 = 0 → xw G m_Model_phrase F L bc bs pr px 110 [some (.ref a0)] [.ref a0] h) (kf : y0 = 0 → xw G m_Model_phrase F L bc bs pr px 106 [some (.ref a0)] [.ref a0] h) : xw G m_Model_phrase F L bc bs pr px 103 [some (.ref a0)] [.int y0, .ref a0] h := by
  refine x_if_ne (tgt := 110) d_Model_phrase_103 (by decide) (fun hc => ?_) (fun hc => ?_)
  · exact kt hc
  · exact kf hc
theorem s_Model_phrase_106 {G : xw_G} {F L bc bs : Nat} {pr : Option Value → xw_A → Prop} {px : String → xw_A → Prop} {h : xw_A} {a0 : Nat}  (k : xw G m_Model_phrase F L bc bs pr px 111 [some (.ref a0)] [.int 1, .ref a0] h) : xw G m_Model_phrase F L bc bs pr px 106 [some (.ref a0)] [.ref a0] h := by
  refine x_iconst (v := 1) d_Model_phrase_106 (by decide) ?_
  refine x_goto (tgt := 111) d_Model_phrase_107 (by decide) ?_
  exact k
theorem s_Model_phrase_110 {G : xw_G} {F L bc bs : Nat} {pr : Option Value → xw_A → Prop} {px : String → xw_A → Prop} {h : xw_A} {a0 : Nat}  (k : xw G m_Model_phrase F L bc bs pr px 111 [some (.ref a0)] [.int 0, .ref a0] h) : xw G m_Model_phrase F L bc bs pr px 110 [some (.ref a0)] [.ref a0] h := by
  refine x_iconst (v := 0) d_Model_phrase_110 (by decide) ?_
  exact k
theorem s_Model_phrase_111 {G : xw_G} {F L bc bs : Nat} {pr : Option Value → xw_A → Prop} {px : String → xw_A → Prop} {h : xw_A} {a0 : Nat} {y0 : Int32} {fs_a0 : List Value} {from_a0 : Int32} (l_a0 : fs_a0.length = 62) (e_a0 : h a0 = some (.inr (11, fs_a0))) (g_a0_from : fs_a0[(30 : Nat)]? = some (.int from_a0)) (k : xw G m_Model_phrase F L bc bs pr px 115 [some (.ref a0)] [.int from_a0, .int y0, .ref a0] h) : xw G m_Model_phrase F L bc bs pr px 111 [some (.ref a0)] [.int y0, .ref a0] h := by
  refine x_aload_n d_Model_phrase_111 rfl rfl ?_
  refine x_get d_Model_phrase_112 f_Model_218 e_a0 g_a0_from ?_
  exact k
theorem s_Model_phrase_118 {G : xw_G} {F L bc bs : Nat} {pr : Option Value → xw_A → Prop} {px : String → xw_A → Prop} {h : xw_A} {a0 : Nat} {fs_a0 : List Value} {bad_a0 : Int32} (l_a0 : fs_a0.length = 62) (e_a0 : h a0 = some (.inr (11, fs_a0))) (g_a0_bad : fs_a0[(33 : Nat)]? = some (.int bad_a0)) (kt : bad_a0 < 0 → xw G m_Model_phrase F L bc bs pr px 126 [some (.ref a0)] [] h) (kf : ¬ bad_a0 < 0 → xw G m_Model_phrase F L bc bs pr px 125 [none] [] h) : xw G m_Model_phrase F L bc bs pr px 118 [some (.ref a0)] [] h := by
  refine x_aload_n d_Model_phrase_118 rfl rfl ?_
  refine x_get d_Model_phrase_119 f_Model_71 e_a0 g_a0_bad ?_
  refine x_if_lt (tgt := 126) d_Model_phrase_122 (by decide) (fun hc => ?_) (fun hc => ?_)
  · exact kt hc
  · exact x_le (lv' := [none]) (xw_le_n xw_le_e) (kf hc)
theorem s_Model_phrase_125 {G : xw_G} {F L bc bs : Nat} {pr : Option Value → xw_A → Prop} {px : String → xw_A → Prop} {h : xw_A}   (kr : pr none h) : xw G m_Model_phrase F L bc bs pr px 125 [none] [] h := by
  exact x_vret d_Model_phrase_125 rfl kr
theorem s_Model_phrase_126 {G : xw_G} {F L bc bs : Nat} {pr : Option Value → xw_A → Prop} {px : String → xw_A → Prop} {h : xw_A} {a0 : Nat}  (k : xw G m_Model_phrase F L bc bs pr px 127 [some (.ref a0)] [.ref a0] h) : xw G m_Model_phrase F L bc bs pr px 126 [some (.ref a0)] [] h := by
  refine x_aload_n d_Model_phrase_126 rfl rfl ?_
  exact k
theorem s_Model_phrase_130 {G : xw_G} {F L bc bs : Nat} {pr : Option Value → xw_A → Prop} {px : String → xw_A → Prop} {h : xw_A} {a0 : Nat}  (k : xw G m_Model_phrase F L bc bs pr px 131 [some (.ref a0)] [.ref a0] h) : xw G m_Model_phrase F L bc bs pr px 130 [some (.ref a0)] [] h := by
  refine x_aload_n d_Model_phrase_130 rfl rfl ?_
  exact k
theorem s_Model_phrase_134 {G : xw_G} {F L bc bs : Nat} {pr : Option Value → xw_A → Prop} {px : String → xw_A → Prop} {h : xw_A} {a0 : Nat}  (k : xw G m_Model_phrase F L bc bs pr px 78 [some (.ref a0)] [] h) : xw G m_Model_phrase F L bc bs pr px 134 [some (.ref a0)] [] h := by
  refine x_goto (tgt := 78) d_Model_phrase_134 (by decide) ?_
  exact k
theorem s_Model_phrase_137 {G : xw_G} {F L bc bs : Nat} {pr : Option Value → xw_A → Prop} {px : String → xw_A → Prop} {h : xw_A} {a0 : Nat} {fs_a0 : List Value} {kind_a0 : Int32} (l_a0 : fs_a0.length = 62) (e_a0 : h a0 = some (.inr (11, fs_a0))) (g_a0_kind : fs_a0[(29 : Nat)]? = some (.int kind_a0)) (kt : ¬ kind_a0 = 9 → xw G m_Model_phrase F L bc bs pr px 162 [some (.ref a0)] [] h) (kf : kind_a0 = 9 → xw G m_Model_phrase F L bc bs pr px 146 [some (.ref a0)] [] h) : xw G m_Model_phrase F L bc bs pr px 137 [some (.ref a0)] [] h := by
  refine x_aload_n d_Model_phrase_137 rfl rfl ?_
  refine x_get d_Model_phrase_138 f_Model_227 e_a0 g_a0_kind ?_
  refine x_bipush (v := 9) d_Model_phrase_141 (by decide) ?_
  refine x_icmp_ne (tgt := 162) d_Model_phrase_143 (by decide) (fun hc => ?_) (fun hc => ?_)
  · exact kt hc
  · exact kf hc
theorem s_Model_phrase_146 {G : xw_G} {F L bc bs : Nat} {pr : Option Value → xw_A → Prop} {px : String → xw_A → Prop} {h : xw_A} {a0 : Nat} {fs_a0 : List Value} {starred_a0 : Nat} {phrases_a0 : Int32} {n_starred_a0 : Nat} {f_starred_a0 : Nat → Int32} (l_a0 : fs_a0.length = 62) (e_a0 : h a0 = some (.inr (11, fs_a0))) (g_a0_starred : fs_a0[(42 : Nat)]? = some (.ref starred_a0)) (g_a0_phrases : fs_a0[(34 : Nat)]? = some (.int phrases_a0)) (e_starred_a0 : h starred_a0 = some (.inl (0, n_starred_a0, .inl f_starred_a0))) (i_157 : vp_in (phrases_a0 - 1) n_starred_a0) (k : xw G m_Model_phrase F L bc bs pr px 159 [some (.ref a0)] [.ref a0] (xw_up h starred_a0 (.inl (0, n_starred_a0, .inl (upd f_starred_a0 ((phrases_a0 - 1)).toNatClampNeg 1))))) : xw G m_Model_phrase F L bc bs pr px 146 [some (.ref a0)] [] h := by
  refine x_aload_n d_Model_phrase_146 rfl rfl ?_
  refine x_get d_Model_phrase_147 f_Model_77 e_a0 g_a0_starred ?_
  refine x_aload_n d_Model_phrase_150 rfl rfl ?_
  refine x_get d_Model_phrase_151 f_Model_247 e_a0 g_a0_phrases ?_
  refine x_iconst (v := 1) d_Model_phrase_154 (by decide) ?_
  refine x_isub d_Model_phrase_155 ?_
  refine x_iconst (v := 1) d_Model_phrase_156 (by decide) ?_
  refine x_iast d_Model_phrase_157 e_starred_a0 i_157 ?_
  refine x_aload_n d_Model_phrase_158 rfl rfl ?_
  exact k
theorem s_Model_phrase_162 {G : xw_G} {F L bc bs : Nat} {pr : Option Value → xw_A → Prop} {px : String → xw_A → Prop} {h : xw_A} {a0 : Nat} {fs_a0 : List Value} {firstToken_a0 : Nat} {phrases_a0 : Int32} {tokens_a0 : Int32} {n_firstToken_a0 : Nat} {f_firstToken_a0 : Nat → Int32} (l_a0 : fs_a0.length = 62) (e_a0 : h a0 = some (.inr (11, fs_a0))) (g_a0_firstToken : fs_a0[(41 : Nat)]? = some (.ref firstToken_a0)) (g_a0_phrases : fs_a0[(34 : Nat)]? = some (.int phrases_a0)) (g_a0_tokens : fs_a0[(35 : Nat)]? = some (.int tokens_a0)) (e_firstToken_a0 : h firstToken_a0 = some (.inl (0, n_firstToken_a0, .inl f_firstToken_a0))) (i_174 : vp_in phrases_a0 n_firstToken_a0) (kr : pr none (xw_up h firstToken_a0 (.inl (0, n_firstToken_a0, .inl (upd f_firstToken_a0 (phrases_a0).toNatClampNeg tokens_a0))))) : xw G m_Model_phrase F L bc bs pr px 162 [some (.ref a0)] [] h := by
  refine x_aload_n d_Model_phrase_162 rfl rfl ?_
  refine x_get d_Model_phrase_163 f_Model_74 e_a0 g_a0_firstToken ?_
  refine x_aload_n d_Model_phrase_166 rfl rfl ?_
  refine x_get d_Model_phrase_167 f_Model_247 e_a0 g_a0_phrases ?_
  refine x_aload_n d_Model_phrase_170 rfl rfl ?_
  refine x_get d_Model_phrase_171 f_Model_241 e_a0 g_a0_tokens ?_
  refine x_iast d_Model_phrase_174 e_firstToken_a0 i_174 ?_
  exact x_vret d_Model_phrase_175 rfl kr
theorem s_Model_takeTokens_0 {G : xw_G} {F L bc bs : Nat} {pr : Option Value → xw_A → Prop} {px : String → xw_A → Prop} {h : xw_A} {a0 : Nat} {fs_a0 : List Value} {from_a0 : Int32} (l_a0 : fs_a0.length = 62) (e_a0 : h a0 = some (.inr (11, fs_a0))) (g_a0_from : fs_a0[(30 : Nat)]? = some (.int from_a0)) (k : xw G m_Model_takeTokens F L bc bs pr px 5 [some (.ref a0), some (.int from_a0)] [] h) : xw G m_Model_takeTokens F L bc bs pr px 0 [some (.ref a0), none] [] h := by
  refine x_aload_n d_Model_takeTokens_0 rfl rfl ?_
  refine x_get d_Model_takeTokens_1 f_Model_218 e_a0 g_a0_from ?_
  refine x_istore_n d_Model_takeTokens_4 rfl (by decide) rfl ?_
  show xw G m_Model_takeTokens F L bc bs pr px 5 [some (.ref a0), some (.int from_a0)] [] h
  exact k
theorem s_Model_takeTokens_5 {G : xw_G} {F L bc bs : Nat} {pr : Option Value → xw_A → Prop} {px : String → xw_A → Prop} {h : xw_A} {a0 : Nat} {x1 : Int32} {fs_a0 : List Value} {to_a0 : Int32} (l_a0 : fs_a0.length = 62) (e_a0 : h a0 = some (.inr (11, fs_a0))) (g_a0_to : fs_a0[(31 : Nat)]? = some (.int to_a0)) (kt : to_a0 ≤ x1 → xw G m_Model_takeTokens F L bc bs pr px 96 [none, none] [] h) (kf : ¬ to_a0 ≤ x1 → xw G m_Model_takeTokens F L bc bs pr px 13 [some (.ref a0), some (.int x1)] [] h) : xw G m_Model_takeTokens F L bc bs pr px 5 [some (.ref a0), some (.int x1)] [] h := by
  refine x_iload_n d_Model_takeTokens_5 rfl rfl ?_
  refine x_aload_n d_Model_takeTokens_6 rfl rfl ?_
  refine x_get d_Model_takeTokens_7 f_Model_215 e_a0 g_a0_to ?_
  refine x_icmp_ge (tgt := 96) d_Model_takeTokens_10 (by decide) (fun hc => ?_) (fun hc => ?_)
  · exact x_le (lv' := [none, none]) (xw_le_n (xw_le_n xw_le_e)) (kt hc)
  · exact kf hc
theorem s_Model_takeTokens_13 {G : xw_G} {F L bc bs : Nat} {pr : Option Value → xw_A → Prop} {px : String → xw_A → Prop} {h : xw_A} {a0 : Nat} {x1 : Int32}  (k : xw G m_Model_takeTokens F L bc bs pr px 15 [some (.ref a0), some (.int x1)] [.int x1, .ref a0] h) : xw G m_Model_takeTokens F L bc bs pr px 13 [some (.ref a0), some (.int x1)] [] h := by
  refine x_aload_n d_Model_takeTokens_13 rfl rfl ?_
  refine x_iload_n d_Model_takeTokens_14 rfl rfl ?_
  exact k
theorem s_Model_takeTokens_21 {G : xw_G} {F L bc bs : Nat} {pr : Option Value → xw_A → Prop} {px : String → xw_A → Prop} {h : xw_A} {a0 : Nat} {x1 : Int32} {y0 : Int32}  (kt : y0 = 0 → xw G m_Model_takeTokens F L bc bs pr px 90 [some (.ref a0), some (.int x1)] [] h) (kf : ¬ y0 = 0 → xw G m_Model_takeTokens F L bc bs pr px 24 [some (.ref a0), some (.int x1)] [] h) : xw G m_Model_takeTokens F L bc bs pr px 21 [some (.ref a0), some (.int x1)] [.int y0] h := by
  refine x_if_eq (tgt := 90) d_Model_takeTokens_21 (by decide) (fun hc => ?_) (fun hc => ?_)
  · exact kt hc
  · exact kf hc
theorem s_Model_takeTokens_24 {G : xw_G} {F L bc bs : Nat} {pr : Option Value → xw_A → Prop} {px : String → xw_A → Prop} {h : xw_A} {a0 : Nat} {x1 : Int32} {fs_a0 : List Value} {from_a0 : Int32} (l_a0 : fs_a0.length = 62) (e_a0 : h a0 = some (.inr (11, fs_a0))) (g_a0_from : fs_a0[(30 : Nat)]? = some (.int from_a0)) (kt : x1 = from_a0 → xw G m_Model_takeTokens F L bc bs pr px 45 [some (.ref a0), some (.int x1)] [] h) (kf : ¬ x1 = from_a0 → xw G m_Model_takeTokens F L bc bs pr px 32 [some (.ref a0), some (.int x1)] [] h) : xw G m_Model_takeTokens F L bc bs pr px 24 [some (.ref a0), some (.int x1)] [] h := by
  refine x_iload_n d_Model_takeTokens_24 rfl rfl ?_
  refine x_aload_n d_Model_takeTokens_25 rfl rfl ?_
  refine x_get d_Model_takeTokens_26 f_Model_218 e_a0 g_a0_from ?_
  refine x_icmp_eq (tgt := 45) d_Model_takeTokens_29 (by decide) (fun hc => ?_) (fun hc => ?_)
  · exact kt hc
  · exact kf hc
theorem s_Model_takeTokens_32 {G : xw_G} {F L bc bs : Nat} {pr : Option Value → xw_A → Prop} {px : String → xw_A → Prop} {h : xw_A} {a0 : Nat} {x1 : Int32}  (k : xw G m_Model_takeTokens F L bc bs pr px 36 [some (.ref a0), some (.int x1)] [.int (x1 - 1), .ref a0] h) : xw G m_Model_takeTokens F L bc bs pr px 32 [some (.ref a0), some (.int x1)] [] h := by
  refine x_aload_n d_Model_takeTokens_32 rfl rfl ?_
  refine x_iload_n d_Model_takeTokens_33 rfl rfl ?_
  refine x_iconst (v := 1) d_Model_takeTokens_34 (by decide) ?_
  refine x_isub d_Model_takeTokens_35 ?_
  exact k
theorem s_Model_takeTokens_42 {G : xw_G} {F L bc bs : Nat} {pr : Option Value → xw_A → Prop} {px : String → xw_A → Prop} {h : xw_A} {a0 : Nat} {x1 : Int32} {y0 : Int32}  (kt : ¬ y0 = 0 → xw G m_Model_takeTokens F L bc bs pr px 75 [some (.ref a0), some (.int x1)] [] h) (kf : y0 = 0 → xw G m_Model_takeTokens F L bc bs pr px 45 [some (.ref a0), some (.int x1)] [] h) : xw G m_Model_takeTokens F L bc bs pr px 42 [some (.ref a0), some (.int x1)] [.int y0] h := by
  refine x_if_ne (tgt := 75) d_Model_takeTokens_42 (by decide) (fun hc => ?_) (fun hc => ?_)
  · exact kt hc
  · exact kf hc
theorem s_Model_takeTokens_45 {G : xw_G} {F L bc bs : Nat} {pr : Option Value → xw_A → Prop} {px : String → xw_A → Prop} {h : xw_A} {a0 : Nat} {x1 : Int32} {fs_a0 : List Value} {tokenAt_a0 : Nat} {tokens_a0 : Int32} {n_tokenAt_a0 : Nat} {f_tokenAt_a0 : Nat → Int32} {tokenSize_a0 : Nat} {n_tokenSize_a0 : Nat} {f_tokenSize_a0 : Nat → Int32} (l_a0 : fs_a0.length = 62) (e_a0 : h a0 = some (.inr (11, fs_a0))) (g_a0_tokenAt : fs_a0[(43 : Nat)]? = some (.ref tokenAt_a0)) (g_a0_tokens : fs_a0[(35 : Nat)]? = some (.int tokens_a0)) (e_tokenAt_a0 : h tokenAt_a0 = some (.inl (0, n_tokenAt_a0, .inl f_tokenAt_a0))) (i_54 : vp_in tokens_a0 n_tokenAt_a0) (g_a0_tokenSize : fs_a0[(44 : Nat)]? = some (.ref tokenSize_a0)) (e_tokenSize_a0 : h tokenSize_a0 = some (.inl (0, n_tokenSize_a0, .inl f_tokenSize_a0))) (i_64 : vp_in tokens_a0 n_tokenSize_a0) (n_tokenSize_a0_tokenAt_a0 : tokenSize_a0 ≠ tokenAt_a0) (k : xw G m_Model_takeTokens F L bc bs pr px 75 [some (.ref a0), some (.int x1)] [] (xw_up (xw_up (xw_up h tokenAt_a0 (.inl (0, n_tokenAt_a0, .inl (upd f_tokenAt_a0 (tokens_a0).toNatClampNeg x1)))) tokenSize_a0 (.inl (0, n_tokenSize_a0, .inl (upd f_tokenSize_a0 (tokens_a0).toNatClampNeg 0)))) a0 (.inr (11, (fs_a0.set 35 (.int (tokens_a0 + 1))))))) : xw G m_Model_takeTokens F L bc bs pr px 45 [some (.ref a0), some (.int x1)] [] h := by
  refine x_aload_n d_Model_takeTokens_45 rfl rfl ?_
  refine x_get d_Model_takeTokens_46 f_Model_80 e_a0 g_a0_tokenAt ?_
  refine x_aload_n d_Model_takeTokens_49 rfl rfl ?_
  refine x_get d_Model_takeTokens_50 f_Model_241 e_a0 g_a0_tokens ?_
  refine x_iload_n d_Model_takeTokens_53 rfl rfl ?_
  refine x_iast d_Model_takeTokens_54 e_tokenAt_a0 i_54 ?_
  refine x_aload_n d_Model_takeTokens_55 rfl rfl ?_
  refine x_get d_Model_takeTokens_56 f_Model_83 ((xw_up_n _ _ (xw_ne e_a0 e_tokenAt_a0 (by simp))).trans e_a0) g_a0_tokenSize ?_
  refine x_aload_n d_Model_takeTokens_59 rfl rfl ?_
  refine x_get d_Model_takeTokens_60 f_Model_241 ((xw_up_n _ _ (xw_ne e_a0 e_tokenAt_a0 (by simp))).trans e_a0) g_a0_tokens ?_
  refine x_iconst (v := 0) d_Model_takeTokens_63 (by decide) ?_
  refine x_iast d_Model_takeTokens_64 ((xw_up_n _ _ n_tokenSize_a0_tokenAt_a0).trans e_tokenSize_a0) i_64 ?_
  refine x_aload_n d_Model_takeTokens_65 rfl rfl ?_
  refine x_dup d_Model_takeTokens_66 rfl ?_
  refine x_get d_Model_takeTokens_67 f_Model_241 ((xw_up_n _ _ (xw_ne e_a0 e_tokenSize_a0 (by simp))).trans ((xw_up_n _ _ (xw_ne e_a0 e_tokenAt_a0 (by simp))).trans e_a0)) g_a0_tokens ?_
  refine x_iconst (v := 1) d_Model_takeTokens_70 (by decide) ?_
  refine x_iadd d_Model_takeTokens_71 ?_
  refine x_put (ty := .int) d_Model_takeTokens_72 f_Model_241 fw_Model_35.1 fw_Model_35.2 rfl rfl (by simp [l_a0]) ((xw_up_n _ _ (xw_ne e_a0 e_tokenSize_a0 (by simp))).trans ((xw_up_n _ _ (xw_ne e_a0 e_tokenAt_a0 (by simp))).trans e_a0)) ?_
  show xw G m_Model_takeTokens F L bc bs pr px 75 [some (.ref a0), some (.int x1)] [] (xw_up (xw_up (xw_up h tokenAt_a0 (.inl (0, n_tokenAt_a0, .inl (upd f_tokenAt_a0 (tokens_a0).toNatClampNeg x1)))) tokenSize_a0 (.inl (0, n_tokenSize_a0, .inl (upd f_tokenSize_a0 (tokens_a0).toNatClampNeg 0)))) a0 (.inr (11, (fs_a0.set 35 (.int (tokens_a0 + 1))))))
  exact k
theorem s_Model_takeTokens_75 {G : xw_G} {F L bc bs : Nat} {pr : Option Value → xw_A → Prop} {px : String → xw_A → Prop} {h : xw_A} {a0 : Nat} {x1 : Int32} {fs_a0 : List Value} {tokenSize_a0 : Nat} {tokens_a0 : Int32} {n_tokenSize_a0 : Nat} {f_tokenSize_a0 : Nat → Int32} (l_a0 : fs_a0.length = 62) (e_a0 : h a0 = some (.inr (11, fs_a0))) (g_a0_tokenSize : fs_a0[(44 : Nat)]? = some (.ref tokenSize_a0)) (g_a0_tokens : fs_a0[(35 : Nat)]? = some (.int tokens_a0)) (e_tokenSize_a0 : h tokenSize_a0 = some (.inl (0, n_tokenSize_a0, .inl f_tokenSize_a0))) (i_86 : vp_in (tokens_a0 - 1) n_tokenSize_a0) (i_89 : vp_in (tokens_a0 - 1) n_tokenSize_a0) (k : xw G m_Model_takeTokens F L bc bs pr px 90 [some (.ref a0), some (.int x1)] [] (xw_up h tokenSize_a0 (.inl (0, n_tokenSize_a0, .inl (upd f_tokenSize_a0 ((tokens_a0 - 1)).toNatClampNeg ((f_tokenSize_a0 (tokens_a0 - 1).toNatClampNeg) + 1)))))) : xw G m_Model_takeTokens F L bc bs pr px 75 [some (.ref a0), some (.int x1)] [] h := by
  refine x_aload_n d_Model_takeTokens_75 rfl rfl ?_
  refine x_get d_Model_takeTokens_76 f_Model_83 e_a0 g_a0_tokenSize ?_
  refine x_aload_n d_Model_takeTokens_79 rfl rfl ?_
  refine x_get d_Model_takeTokens_80 f_Model_241 e_a0 g_a0_tokens ?_
  refine x_iconst (v := 1) d_Model_takeTokens_83 (by decide) ?_
  refine x_isub d_Model_takeTokens_84 ?_
  refine x_dup2 d_Model_takeTokens_85 rfl rfl ?_
  refine x_iald d_Model_takeTokens_86 e_tokenSize_a0 i_86 ?_
  refine x_iconst (v := 1) d_Model_takeTokens_87 (by decide) ?_
  refine x_iadd d_Model_takeTokens_88 ?_
  refine x_iast d_Model_takeTokens_89 e_tokenSize_a0 i_89 ?_
  exact k
theorem s_Model_takeTokens_90 {G : xw_G} {F L bc bs : Nat} {pr : Option Value → xw_A → Prop} {px : String → xw_A → Prop} {h : xw_A} {a0 : Nat} {x1 : Int32}  (k : xw G m_Model_takeTokens F L bc bs pr px 5 [some (.ref a0), some (.int (x1 + 1))] [] h) : xw G m_Model_takeTokens F L bc bs pr px 90 [some (.ref a0), some (.int x1)] [] h := by
  refine x_iinc (v := x1 + 1) d_Model_takeTokens_90 rfl (by rfl) (by decide) rfl ?_
  show xw G m_Model_takeTokens F L bc bs pr px 93 [some (.ref a0), some (.int (x1 + 1))] [] h
  refine x_goto (tgt := 5) d_Model_takeTokens_93 (by decide) ?_
  exact k
theorem s_Model_takeTokens_96 {G : xw_G} {F L bc bs : Nat} {pr : Option Value → xw_A → Prop} {px : String → xw_A → Prop} {h : xw_A}   (kr : pr none h) : xw G m_Model_takeTokens F L bc bs pr px 96 [none, none] [] h := by
  exact x_vret d_Model_takeTokens_96 rfl kr
theorem s_Model_finds_0 {G : xw_G} {F L bc bs : Nat} {pr : Option Value → xw_A → Prop} {px : String → xw_A → Prop} {h : xw_A} {a0 : Nat} {x1 : Int32}  (k : xw G m_Model_finds F L bc bs pr px 4 [some (.ref a0), some (.int x1), some (.int 0), some (.int 0), none, none] [] h) : xw G m_Model_finds F L bc bs pr px 0 [some (.ref a0), some (.int x1), none, none, none, none] [] h := by
  refine x_iconst (v := 0) d_Model_finds_0 (by decide) ?_
  refine x_istore_n d_Model_finds_1 rfl (by decide) rfl ?_
  show xw G m_Model_finds F L bc bs pr px 2 [some (.ref a0), some (.int x1), some (.int 0), none, none, none] [] h
  refine x_iconst (v := 0) d_Model_finds_2 (by decide) ?_
  refine x_istore_n d_Model_finds_3 rfl (by decide) rfl ?_
  show xw G m_Model_finds F L bc bs pr px 4 [some (.ref a0), some (.int x1), some (.int 0), some (.int 0), none, none] [] h
  exact k
theorem s_Model_finds_4 {G : xw_G} {F L bc bs : Nat} {pr : Option Value → xw_A → Prop} {px : String → xw_A → Prop} {h : xw_A} {a0 : Nat} {x1 : Int32} {x2 : Int32} {x3 : Int32} {fs_a0 : List Value} {outs_a0 : Int32} (l_a0 : fs_a0.length = 62) (e_a0 : h a0 = some (.inr (11, fs_a0))) (g_a0_outs : fs_a0[(37 : Nat)]? = some (.int outs_a0)) (kt : outs_a0 ≤ x3 → xw G m_Model_finds F L bc bs pr px 151 [some (.ref a0), none, none, none, none, none] [] h) (kf : ¬ outs_a0 ≤ x3 → xw G m_Model_finds F L bc bs pr px 12 [some (.ref a0), some (.int x1), some (.int x2), some (.int x3), none, none] [] h) : xw G m_Model_finds F L bc bs pr px 4 [some (.ref a0), some (.int x1), some (.int x2), some (.int x3), none, none] [] h := by
  refine x_iload_n d_Model_finds_4 rfl rfl ?_
  refine x_aload_n d_Model_finds_5 rfl rfl ?_
  refine x_get d_Model_finds_6 f_Model_272 e_a0 g_a0_outs ?_
  refine x_icmp_ge (tgt := 151) d_Model_finds_9 (by decide) (fun hc => ?_) (fun hc => ?_)
  · exact x_le (lv' := [some (.ref a0), none, none, none, none, none]) (xw_le_s (xw_le_n (xw_le_n (xw_le_n (xw_le_n (xw_le_n xw_le_e)))))) (kt hc)
  · exact kf hc
theorem s_Model_finds_12 {G : xw_G} {F L bc bs : Nat} {pr : Option Value → xw_A → Prop} {px : String → xw_A → Prop} {h : xw_A} {a0 : Nat} {x1 : Int32} {x2 : Int32} {x3 : Int32} {fs_a0 : List Value} {out_a0 : Nat} {n_out_a0 : Nat} {f_out_a0 : Nat → Int32} (l_a0 : fs_a0.length = 62) (e_a0 : h a0 = some (.inr (11, fs_a0))) (g_a0_out : fs_a0[(50 : Nat)]? = some (.ref out_a0)) (e_out_a0 : h out_a0 = some (.inl (0, n_out_a0, .inl f_out_a0))) (i_17 : vp_in x3 n_out_a0) (kt : (f_out_a0 x3.toNatClampNeg) < 0 → xw G m_Model_finds F L bc bs pr px 44 [some (.ref a0), some (.int x1), some (.int x2), some (.int x3), none, none] [] h) (kf : ¬ (f_out_a0 x3.toNatClampNeg) < 0 → xw G m_Model_finds F L bc bs pr px 21 [some (.ref a0), some (.int x1), some (.int x2), some (.int x3), none, none] [] h) : xw G m_Model_finds F L bc bs pr px 12 [some (.ref a0), some (.int x1), some (.int x2), some (.int x3), none, none] [] h := by
  refine x_aload_n d_Model_finds_12 rfl rfl ?_
  refine x_get d_Model_finds_13 f_Model_101 e_a0 g_a0_out ?_
  refine x_iload_n d_Model_finds_16 rfl rfl ?_
  refine x_iald d_Model_finds_17 e_out_a0 i_17 ?_
  refine x_if_lt (tgt := 44) d_Model_finds_18 (by decide) (fun hc => ?_) (fun hc => ?_)
  · exact kt hc
  · exact kf hc
theorem s_Model_finds_21 {G : xw_G} {F L bc bs : Nat} {pr : Option Value → xw_A → Prop} {px : String → xw_A → Prop} {h : xw_A} {a0 : Nat} {x1 : Int32} {x2 : Int32} {x3 : Int32} {fs_a0 : List Value} {truth_a0 : Option Nat} {out_a0 : Nat} {n_out_a0 : Nat} {f_out_a0 : Nat → Int32} (l_a0 : fs_a0.length = 62) (e_a0 : h a0 = some (.inr (11, fs_a0))) (g_a0_truth : fs_a0[(57 : Nat)]? = some (va_rf truth_a0)) (g_a0_out : fs_a0[(50 : Nat)]? = some (.ref out_a0)) (e_out_a0 : h out_a0 = some (.inl (0, n_out_a0, .inl f_out_a0))) (i_32 : vp_in x3 n_out_a0) (k : xw G m_Model_finds F L bc bs pr px 34 [some (.ref a0), some (.int x1), some (.int x2), some (.int x3), none, none] [.int x1, .int (f_out_a0 x3.toNatClampNeg), .ref a0, .int x2, va_rf truth_a0] h) : xw G m_Model_finds F L bc bs pr px 21 [some (.ref a0), some (.int x1), some (.int x2), some (.int x3), none, none] [] h := by
  refine x_aload_n d_Model_finds_21 rfl rfl ?_
  refine x_get d_Model_finds_22 f_Model_116 e_a0 g_a0_truth ?_
  refine x_iload_n d_Model_finds_25 rfl rfl ?_
  refine x_aload_n d_Model_finds_26 rfl rfl ?_
  refine x_aload_n d_Model_finds_27 rfl rfl ?_
  refine x_get d_Model_finds_28 f_Model_101 e_a0 g_a0_out ?_
  refine x_iload_n d_Model_finds_31 rfl rfl ?_
  refine x_iald d_Model_finds_32 e_out_a0 i_32 ?_
  refine x_iload_n d_Model_finds_33 rfl rfl ?_
  exact k
theorem s_Model_finds_37 {G : xw_G} {F L bc bs : Nat} {pr : Option Value → xw_A → Prop} {px : String → xw_A → Prop} {h : xw_A} {a0 : Nat} {x1 : Int32} {x2 : Int32} {x3 : Int32} {y0 : Int32} {b2 : Nat} {n_b2 : Nat} {f_b2 : Nat → Int32} (e_b2 : h b2 = some (.inl (4, n_b2, .inl f_b2))) (i_37 : vp_in x2 n_b2) (k : xw G m_Model_finds F L bc bs pr px 145 [some (.ref a0), some (.int x1), some (.int (x2 + 1)), some (.int x3), none, none] [] (xw_up h b2 (.inl (4, n_b2, .inl (upd f_b2 (x2).toNatClampNeg (vp_nar .boolean y0)))))) : xw G m_Model_finds F L bc bs pr px 37 [some (.ref a0), some (.int x1), some (.int x2), some (.int x3), none, none] [.int y0, .int x2, .ref b2] h := by
  refine x_zast d_Model_finds_37 e_b2 i_37 ?_
  refine x_iinc (v := x2 + 1) d_Model_finds_38 rfl (by rfl) (by decide) rfl ?_
  show xw G m_Model_finds F L bc bs pr px 41 [some (.ref a0), some (.int x1), some (.int (x2 + 1)), some (.int x3), none, none] [] (xw_up h b2 (.inl (4, n_b2, .inl (upd f_b2 (x2).toNatClampNeg (vp_nar .boolean y0)))))
  refine x_goto (tgt := 145) d_Model_finds_41 (by decide) ?_
  exact k
theorem s_Model_finds_44 {G : xw_G} {F L bc bs : Nat} {pr : Option Value → xw_A → Prop} {px : String → xw_A → Prop} {h : xw_A} {a0 : Nat} {x1 : Int32} {x2 : Int32} {x3 : Int32} {fs_a0 : List Value} {truth_a0 : Nat} {n_truth_a0 : Nat} {f_truth_a0 : Nat → Int32} {out_a0 : Nat} {n_out_a0 : Nat} {f_out_a0 : Nat → Int32} (l_a0 : fs_a0.length = 62) (e_a0 : h a0 = some (.inr (11, fs_a0))) (g_a0_truth : fs_a0[(57 : Nat)]? = some (.ref truth_a0)) (e_truth_a0 : h truth_a0 = some (.inl (4, n_truth_a0, .inl f_truth_a0))) (i_54 : vp_in ((x2 + (-1)) - 1) n_truth_a0) (i_62 : vp_in (x2 + (-1)) n_truth_a0) (g_a0_out : fs_a0[(50 : Nat)]? = some (.ref out_a0)) (e_out_a0 : h out_a0 = some (.inl (0, n_out_a0, .inl f_out_a0))) (i_77 : vp_in x3 n_out_a0) (kt : ¬ (f_out_a0 x3.toNatClampNeg) = ((-1)) → xw G m_Model_finds F L bc bs pr px 100 [some (.ref a0), some (.int x1), some (.int (x2 + (-1))), some (.int x3), some (.int (f_truth_a0 ((x2 + (-1)) - 1).toNatClampNeg)), some (.int (f_truth_a0 (x2 + (-1)).toNatClampNeg))] [.int ((x2 + (-1)) - 1), .ref truth_a0] h) (kf : (f_out_a0 x3.toNatClampNeg) = ((-1)) → xw G m_Model_finds F L bc bs pr px 82 [some (.ref a0), some (.int x1), some (.int (x2 + (-1))), some (.int x3), some (.int (f_truth_a0 ((x2 + (-1)) - 1).toNatClampNeg)), some (.int (f_truth_a0 (x2 + (-1)).toNatClampNeg))] [.int ((x2 + (-1)) - 1), .ref truth_a0] h) : xw G m_Model_finds F L bc bs pr px 44 [some (.ref a0), some (.int x1), some (.int x2), some (.int x3), none, none] [] h := by
  refine x_iinc (v := x2 + (-1)) d_Model_finds_44 rfl (by rfl) (by decide) rfl ?_
  show xw G m_Model_finds F L bc bs pr px 47 [some (.ref a0), some (.int x1), some (.int (x2 + (-1))), some (.int x3), none, none] [] h
  refine x_aload_n d_Model_finds_47 rfl rfl ?_
  refine x_get d_Model_finds_48 f_Model_116 e_a0 g_a0_truth ?_
  refine x_iload_n d_Model_finds_51 rfl rfl ?_
  refine x_iconst (v := 1) d_Model_finds_52 (by decide) ?_
  refine x_isub d_Model_finds_53 ?_
  refine x_zald d_Model_finds_54 e_truth_a0 i_54 ?_
  refine x_istore d_Model_finds_55 (by decide) rfl ?_
  show xw G m_Model_finds F L bc bs pr px 57 [some (.ref a0), some (.int x1), some (.int (x2 + (-1))), some (.int x3), some (.int (f_truth_a0 ((x2 + (-1)) - 1).toNatClampNeg)), none] [] h
  refine x_aload_n d_Model_finds_57 rfl rfl ?_
  refine x_get d_Model_finds_58 f_Model_116 e_a0 g_a0_truth ?_
  refine x_iload_n d_Model_finds_61 rfl rfl ?_
  refine x_zald d_Model_finds_62 e_truth_a0 i_62 ?_
  refine x_istore d_Model_finds_63 (by decide) rfl ?_
  show xw G m_Model_finds F L bc bs pr px 65 [some (.ref a0), some (.int x1), some (.int (x2 + (-1))), some (.int x3), some (.int (f_truth_a0 ((x2 + (-1)) - 1).toNatClampNeg)), some (.int (f_truth_a0 (x2 + (-1)).toNatClampNeg))] [] h
  refine x_aload_n d_Model_finds_65 rfl rfl ?_
  refine x_get d_Model_finds_66 f_Model_116 e_a0 g_a0_truth ?_
  refine x_iload_n d_Model_finds_69 rfl rfl ?_
  refine x_iconst (v := 1) d_Model_finds_70 (by decide) ?_
  refine x_isub d_Model_finds_71 ?_
  refine x_aload_n d_Model_finds_72 rfl rfl ?_
  refine x_get d_Model_finds_73 f_Model_101 e_a0 g_a0_out ?_
  refine x_iload_n d_Model_finds_76 rfl rfl ?_
  refine x_iald d_Model_finds_77 e_out_a0 i_77 ?_
  refine x_iconst (v := -1) d_Model_finds_78 (by decide) ?_
  refine x_icmp_ne (tgt := 100) d_Model_finds_79 (by decide) (fun hc => ?_) (fun hc => ?_)
  · exact kt hc
  · exact kf hc
theorem s_Model_finds_82 {G : xw_G} {F L bc bs : Nat} {pr : Option Value → xw_A → Prop} {px : String → xw_A → Prop} {h : xw_A} {a0 : Nat} {x1 : Int32} {x2 : Int32} {x3 : Int32} {x4 : Int32} {x5 : Int32} {y0 : Int32} {b1 : Nat}  (kt : ¬ x4 = 0 → xw G m_Model_finds F L bc bs pr px 92 [some (.ref a0), some (.int x1), some (.int x2), some (.int x3), none, none] [.int y0, .ref b1] h) (kf : x4 = 0 → xw G m_Model_finds F L bc bs pr px 87 [some (.ref a0), some (.int x1), some (.int x2), some (.int x3), none, some (.int x5)] [.int y0, .ref b1] h) : xw G m_Model_finds F L bc bs pr px 82 [some (.ref a0), some (.int x1), some (.int x2), some (.int x3), some (.int x4), some (.int x5)] [.int y0, .ref b1] h := by
  refine x_iload d_Model_finds_82 rfl ?_
  refine x_if_ne (tgt := 92) d_Model_finds_84 (by decide) (fun hc => ?_) (fun hc => ?_)
  · exact x_le (lv' := [some (.ref a0), some (.int x1), some (.int x2), some (.int x3), none, none]) (xw_le_s (xw_le_s (xw_le_s (xw_le_s (xw_le_n (xw_le_n xw_le_e)))))) (kt hc)
  · exact x_le (lv' := [some (.ref a0), some (.int x1), some (.int x2), some (.int x3), none, some (.int x5)]) (xw_le_s (xw_le_s (xw_le_s (xw_le_s (xw_le_n (xw_le_s xw_le_e)))))) (kf hc)
theorem s_Model_finds_87 {G : xw_G} {F L bc bs : Nat} {pr : Option Value → xw_A → Prop} {px : String → xw_A → Prop} {h : xw_A} {a0 : Nat} {x1 : Int32} {x2 : Int32} {x3 : Int32} {x5 : Int32} {y0 : Int32} {b1 : Nat}  (kt : x5 = 0 → xw G m_Model_finds F L bc bs pr px 96 [some (.ref a0), some (.int x1), some (.int x2), some (.int x3), none, none] [.int y0, .ref b1] h) (kf : ¬ x5 = 0 → xw G m_Model_finds F L bc bs pr px 92 [some (.ref a0), some (.int x1), some (.int x2), some (.int x3), none, none] [.int y0, .ref b1] h) : xw G m_Model_finds F L bc bs pr px 87 [some (.ref a0), some (.int x1), some (.int x2), some (.int x3), none, some (.int x5)] [.int y0, .ref b1] h := by
  refine x_iload d_Model_finds_87 rfl ?_
  refine x_if_eq (tgt := 96) d_Model_finds_89 (by decide) (fun hc => ?_) (fun hc => ?_)
  · exact x_le (lv' := [some (.ref a0), some (.int x1), some (.int x2), some (.int x3), none, none]) (xw_le_s (xw_le_s (xw_le_s (xw_le_s (xw_le_n (xw_le_n xw_le_e)))))) (kt hc)
  · exact x_le (lv' := [some (.ref a0), some (.int x1), some (.int x2), some (.int x3), none, none]) (xw_le_s (xw_le_s (xw_le_s (xw_le_s (xw_le_n (xw_le_n xw_le_e)))))) (kf hc)
theorem s_Model_finds_92 {G : xw_G} {F L bc bs : Nat} {pr : Option Value → xw_A → Prop} {px : String → xw_A → Prop} {h : xw_A} {a0 : Nat} {x1 : Int32} {x2 : Int32} {x3 : Int32} {y0 : Int32} {b1 : Nat}  (k : xw G m_Model_finds F L bc bs pr px 144 [some (.ref a0), some (.int x1), some (.int x2), some (.int x3), none, none] [.int 1, .int y0, .ref b1] h) : xw G m_Model_finds F L bc bs pr px 92 [some (.ref a0), some (.int x1), some (.int x2), some (.int x3), none, none] [.int y0, .ref b1] h := by
  refine x_iconst (v := 1) d_Model_finds_92 (by decide) ?_
  refine x_goto (tgt := 144) d_Model_finds_93 (by decide) ?_
  exact k
theorem s_Model_finds_96 {G : xw_G} {F L bc bs : Nat} {pr : Option Value → xw_A → Prop} {px : String → xw_A → Prop} {h : xw_A} {a0 : Nat} {x1 : Int32} {x2 : Int32} {x3 : Int32} {y0 : Int32} {b1 : Nat}  (k : xw G m_Model_finds F L bc bs pr px 144 [some (.ref a0), some (.int x1), some (.int x2), some (.int x3), none, none] [.int 0, .int y0, .ref b1] h) : xw G m_Model_finds F L bc bs pr px 96 [some (.ref a0), some (.int x1), some (.int x2), some (.int x3), none, none] [.int y0, .ref b1] h := by
  refine x_iconst (v := 0) d_Model_finds_96 (by decide) ?_
  refine x_goto (tgt := 144) d_Model_finds_97 (by decide) ?_
  exact k
theorem s_Model_finds_100 {G : xw_G} {F L bc bs : Nat} {pr : Option Value → xw_A → Prop} {px : String → xw_A → Prop} {h : xw_A} {a0 : Nat} {x1 : Int32} {x2 : Int32} {x3 : Int32} {x4 : Int32} {x5 : Int32} {y0 : Int32} {b1 : Nat} {fs_a0 : List Value} {out_a0 : Nat} {n_out_a0 : Nat} {f_out_a0 : Nat → Int32} (l_a0 : fs_a0.length = 62) (e_a0 : h a0 = some (.inr (11, fs_a0))) (g_a0_out : fs_a0[(50 : Nat)]? = some (.ref out_a0)) (e_out_a0 : h out_a0 = some (.inl (0, n_out_a0, .inl f_out_a0))) (i_105 : vp_in x3 n_out_a0) (kt : ¬ (f_out_a0 x3.toNatClampNeg) = ((-3)) → xw G m_Model_finds F L bc bs pr px 129 [some (.ref a0), some (.int x1), some (.int x2), some (.int x3), some (.int x4), some (.int x5)] [.int y0, .ref b1] h) (kf : (f_out_a0 x3.toNatClampNeg) = ((-3)) → xw G m_Model_finds F L bc bs pr px 111 [some (.ref a0), some (.int x1), some (.int x2), some (.int x3), some (.int x4), some (.int x5)] [.int y0, .ref b1] h) : xw G m_Model_finds F L bc bs pr px 100 [some (.ref a0), some (.int x1), some (.int x2), some (.int x3), some (.int x4), some (.int x5)] [.int y0, .ref b1] h := by
  refine x_aload_n d_Model_finds_100 rfl rfl ?_
  refine x_get d_Model_finds_101 f_Model_101 e_a0 g_a0_out ?_
  refine x_iload_n d_Model_finds_104 rfl rfl ?_
  refine x_iald d_Model_finds_105 e_out_a0 i_105 ?_
  refine x_bipush (v := -3) d_Model_finds_106 (by decide) ?_
  refine x_icmp_ne (tgt := 129) d_Model_finds_108 (by decide) (fun hc => ?_) (fun hc => ?_)
  · exact kt hc
  · exact kf hc
theorem s_Model_finds_111 {G : xw_G} {F L bc bs : Nat} {pr : Option Value → xw_A → Prop} {px : String → xw_A → Prop} {h : xw_A} {a0 : Nat} {x1 : Int32} {x2 : Int32} {x3 : Int32} {x4 : Int32} {x5 : Int32} {y0 : Int32} {b1 : Nat}  (kt : x4 = 0 → xw G m_Model_finds F L bc bs pr px 125 [some (.ref a0), some (.int x1), some (.int x2), some (.int x3), none, none] [.int y0, .ref b1] h) (kf : ¬ x4 = 0 → xw G m_Model_finds F L bc bs pr px 116 [some (.ref a0), some (.int x1), some (.int x2), some (.int x3), none, some (.int x5)] [.int y0, .ref b1] h) : xw G m_Model_finds F L bc bs pr px 111 [some (.ref a0), some (.int x1), some (.int x2), some (.int x3), some (.int x4), some (.int x5)] [.int y0, .ref b1] h := by
  refine x_iload d_Model_finds_111 rfl ?_
  refine x_if_eq (tgt := 125) d_Model_finds_113 (by decide) (fun hc => ?_) (fun hc => ?_)
  · exact x_le (lv' := [some (.ref a0), some (.int x1), some (.int x2), some (.int x3), none, none]) (xw_le_s (xw_le_s (xw_le_s (xw_le_s (xw_le_n (xw_le_n xw_le_e)))))) (kt hc)
  · exact x_le (lv' := [some (.ref a0), some (.int x1), some (.int x2), some (.int x3), none, some (.int x5)]) (xw_le_s (xw_le_s (xw_le_s (xw_le_s (xw_le_n (xw_le_s xw_le_e)))))) (kf hc)
theorem s_Model_finds_116 {G : xw_G} {F L bc bs : Nat} {pr : Option Value → xw_A → Prop} {px : String → xw_A → Prop} {h : xw_A} {a0 : Nat} {x1 : Int32} {x2 : Int32} {x3 : Int32} {x5 : Int32} {y0 : Int32} {b1 : Nat}  (kt : ¬ x5 = 0 → xw G m_Model_finds F L bc bs pr px 125 [some (.ref a0), some (.int x1), some (.int x2), some (.int x3), none, none] [.int y0, .ref b1] h) (kf : x5 = 0 → xw G m_Model_finds F L bc bs pr px 121 [some (.ref a0), some (.int x1), some (.int x2), some (.int x3), none, none] [.int y0, .ref b1] h) : xw G m_Model_finds F L bc bs pr px 116 [some (.ref a0), some (.int x1), some (.int x2), some (.int x3), none, some (.int x5)] [.int y0, .ref b1] h := by
  refine x_iload d_Model_finds_116 rfl ?_
  refine x_if_ne (tgt := 125) d_Model_finds_118 (by decide) (fun hc => ?_) (fun hc => ?_)
  · exact x_le (lv' := [some (.ref a0), some (.int x1), some (.int x2), some (.int x3), none, none]) (xw_le_s (xw_le_s (xw_le_s (xw_le_s (xw_le_n (xw_le_n xw_le_e)))))) (kt hc)
  · exact x_le (lv' := [some (.ref a0), some (.int x1), some (.int x2), some (.int x3), none, none]) (xw_le_s (xw_le_s (xw_le_s (xw_le_s (xw_le_n (xw_le_n xw_le_e)))))) (kf hc)
theorem s_Model_finds_121 {G : xw_G} {F L bc bs : Nat} {pr : Option Value → xw_A → Prop} {px : String → xw_A → Prop} {h : xw_A} {a0 : Nat} {x1 : Int32} {x2 : Int32} {x3 : Int32} {y0 : Int32} {b1 : Nat}  (k : xw G m_Model_finds F L bc bs pr px 144 [some (.ref a0), some (.int x1), some (.int x2), some (.int x3), none, none] [.int 1, .int y0, .ref b1] h) : xw G m_Model_finds F L bc bs pr px 121 [some (.ref a0), some (.int x1), some (.int x2), some (.int x3), none, none] [.int y0, .ref b1] h := by
  refine x_iconst (v := 1) d_Model_finds_121 (by decide) ?_
  refine x_goto (tgt := 144) d_Model_finds_122 (by decide) ?_
  exact k
theorem s_Model_finds_125 {G : xw_G} {F L bc bs : Nat} {pr : Option Value → xw_A → Prop} {px : String → xw_A → Prop} {h : xw_A} {a0 : Nat} {x1 : Int32} {x2 : Int32} {x3 : Int32} {y0 : Int32} {b1 : Nat}  (k : xw G m_Model_finds F L bc bs pr px 144 [some (.ref a0), some (.int x1), some (.int x2), some (.int x3), none, none] [.int 0, .int y0, .ref b1] h) : xw G m_Model_finds F L bc bs pr px 125 [some (.ref a0), some (.int x1), some (.int x2), some (.int x3), none, none] [.int y0, .ref b1] h := by
  refine x_iconst (v := 0) d_Model_finds_125 (by decide) ?_
  refine x_goto (tgt := 144) d_Model_finds_126 (by decide) ?_
  exact k
theorem s_Model_finds_129 {G : xw_G} {F L bc bs : Nat} {pr : Option Value → xw_A → Prop} {px : String → xw_A → Prop} {h : xw_A} {a0 : Nat} {x1 : Int32} {x2 : Int32} {x3 : Int32} {x4 : Int32} {x5 : Int32} {y0 : Int32} {b1 : Nat}  (kt : x4 = 0 → xw G m_Model_finds F L bc bs pr px 143 [some (.ref a0), some (.int x1), some (.int x2), some (.int x3), none, none] [.int y0, .ref b1] h) (kf : ¬ x4 = 0 → xw G m_Model_finds F L bc bs pr px 134 [some (.ref a0), some (.int x1), some (.int x2), some (.int x3), none, some (.int x5)] [.int y0, .ref b1] h) : xw G m_Model_finds F L bc bs pr px 129 [some (.ref a0), some (.int x1), some (.int x2), some (.int x3), some (.int x4), some (.int x5)] [.int y0, .ref b1] h := by
  refine x_iload d_Model_finds_129 rfl ?_
  refine x_if_eq (tgt := 143) d_Model_finds_131 (by decide) (fun hc => ?_) (fun hc => ?_)
  · exact x_le (lv' := [some (.ref a0), some (.int x1), some (.int x2), some (.int x3), none, none]) (xw_le_s (xw_le_s (xw_le_s (xw_le_s (xw_le_n (xw_le_n xw_le_e)))))) (kt hc)
  · exact x_le (lv' := [some (.ref a0), some (.int x1), some (.int x2), some (.int x3), none, some (.int x5)]) (xw_le_s (xw_le_s (xw_le_s (xw_le_s (xw_le_n (xw_le_s xw_le_e)))))) (kf hc)
theorem s_Model_finds_134 {G : xw_G} {F L bc bs : Nat} {pr : Option Value → xw_A → Prop} {px : String → xw_A → Prop} {h : xw_A} {a0 : Nat} {x1 : Int32} {x2 : Int32} {x3 : Int32} {x5 : Int32} {y0 : Int32} {b1 : Nat}  (kt : x5 = 0 → xw G m_Model_finds F L bc bs pr px 143 [some (.ref a0), some (.int x1), some (.int x2), some (.int x3), none, none] [.int y0, .ref b1] h) (kf : ¬ x5 = 0 → xw G m_Model_finds F L bc bs pr px 139 [some (.ref a0), some (.int x1), some (.int x2), some (.int x3), none, none] [.int y0, .ref b1] h) : xw G m_Model_finds F L bc bs pr px 134 [some (.ref a0), some (.int x1), some (.int x2), some (.int x3), none, some (.int x5)] [.int y0, .ref b1] h := by
  refine x_iload d_Model_finds_134 rfl ?_
  refine x_if_eq (tgt := 143) d_Model_finds_136 (by decide) (fun hc => ?_) (fun hc => ?_)
  · exact x_le (lv' := [some (.ref a0), some (.int x1), some (.int x2), some (.int x3), none, none]) (xw_le_s (xw_le_s (xw_le_s (xw_le_s (xw_le_n (xw_le_n xw_le_e)))))) (kt hc)
  · exact x_le (lv' := [some (.ref a0), some (.int x1), some (.int x2), some (.int x3), none, none]) (xw_le_s (xw_le_s (xw_le_s (xw_le_s (xw_le_n (xw_le_n xw_le_e)))))) (kf hc)
theorem s_Model_finds_139 {G : xw_G} {F L bc bs : Nat} {pr : Option Value → xw_A → Prop} {px : String → xw_A → Prop} {h : xw_A} {a0 : Nat} {x1 : Int32} {x2 : Int32} {x3 : Int32} {y0 : Int32} {b1 : Nat}  (k : xw G m_Model_finds F L bc bs pr px 144 [some (.ref a0), some (.int x1), some (.int x2), some (.int x3), none, none] [.int 1, .int y0, .ref b1] h) : xw G m_Model_finds F L bc bs pr px 139 [some (.ref a0), some (.int x1), some (.int x2), some (.int x3), none, none] [.int y0, .ref b1] h := by
  refine x_iconst (v := 1) d_Model_finds_139 (by decide) ?_
  refine x_goto (tgt := 144) d_Model_finds_140 (by decide) ?_
  exact k
theorem s_Model_finds_143 {G : xw_G} {F L bc bs : Nat} {pr : Option Value → xw_A → Prop} {px : String → xw_A → Prop} {h : xw_A} {a0 : Nat} {x1 : Int32} {x2 : Int32} {x3 : Int32} {y0 : Int32} {b1 : Nat}  (k : xw G m_Model_finds F L bc bs pr px 144 [some (.ref a0), some (.int x1), some (.int x2), some (.int x3), none, none] [.int 0, .int y0, .ref b1] h) : xw G m_Model_finds F L bc bs pr px 143 [some (.ref a0), some (.int x1), some (.int x2), some (.int x3), none, none] [.int y0, .ref b1] h := by
  refine x_iconst (v := 0) d_Model_finds_143 (by decide) ?_
  exact k
theorem s_Model_finds_144 {G : xw_G} {F L bc bs : Nat} {pr : Option Value → xw_A → Prop} {px : String → xw_A → Prop} {h : xw_A} {a0 : Nat} {x1 : Int32} {x2 : Int32} {x3 : Int32} {y0 : Int32} {y1 : Int32} {b2 : Nat} {n_b2 : Nat} {f_b2 : Nat → Int32} (e_b2 : h b2 = some (.inl (4, n_b2, .inl f_b2))) (i_144 : vp_in y1 n_b2) (k : xw G m_Model_finds F L bc bs pr px 145 [some (.ref a0), some (.int x1), some (.int x2), some (.int x3), none, none] [] (xw_up h b2 (.inl (4, n_b2, .inl (upd f_b2 (y1).toNatClampNeg (vp_nar .boolean y0)))))) : xw G m_Model_finds F L bc bs pr px 144 [some (.ref a0), some (.int x1), some (.int x2), some (.int x3), none, none] [.int y0, .int y1, .ref b2] h := by
  refine x_zast d_Model_finds_144 e_b2 i_144 ?_
  exact k
theorem s_Model_finds_145 {G : xw_G} {F L bc bs : Nat} {pr : Option Value → xw_A → Prop} {px : String → xw_A → Prop} {h : xw_A} {a0 : Nat} {x1 : Int32} {x2 : Int32} {x3 : Int32}  (k : xw G m_Model_finds F L bc bs pr px 4 [some (.ref a0), some (.int x1), some (.int x2), some (.int (x3 + 1)), none, none] [] h) : xw G m_Model_finds F L bc bs pr px 145 [some (.ref a0), some (.int x1), some (.int x2), some (.int x3), none, none] [] h := by
  refine x_iinc (v := x3 + 1) d_Model_finds_145 rfl (by rfl) (by decide) rfl ?_
  show xw G m_Model_finds F L bc bs pr px 148 [some (.ref a0), some (.int x1), some (.int x2), some (.int (x3 + 1)), none, none] [] h
  refine x_goto (tgt := 4) d_Model_finds_148 (by decide) ?_
  exact k
theorem s_Model_finds_151 {G : xw_G} {F L bc bs : Nat} {pr : Option Value → xw_A → Prop} {px : String → xw_A → Prop} {h : xw_A} {a0 : Nat} {fs_a0 : List Value} {truth_a0 : Nat} {n_truth_a0 : Nat} {f_truth_a0 : Nat → Int32} (l_a0 : fs_a0.length = 62) (e_a0 : h a0 = some (.inr (11, fs_a0))) (g_a0_truth : fs_a0[(57 : Nat)]? = some (.ref truth_a0)) (e_truth_a0 : h truth_a0 = some (.inl (4, n_truth_a0, .inl f_truth_a0))) (i_156 : vp_in 0 n_truth_a0) (w_157 : narrow .boolean (.int (f_truth_a0 (0 : Int32).toNatClampNeg)) = .int (f_truth_a0 (0 : Int32).toNatClampNeg)) (kr : pr (some (.int (f_truth_a0 (0 : Int32).toNatClampNeg))) h) : xw G m_Model_finds F L bc bs pr px 151 [some (.ref a0), none, none, none, none, none] [] h := by
  refine x_aload_n d_Model_finds_151 rfl rfl ?_
  refine x_get d_Model_finds_152 f_Model_116 e_a0 g_a0_truth ?_
  refine x_iconst (v := 0) d_Model_finds_155 (by decide) ?_
  refine x_zald d_Model_finds_156 e_truth_a0 i_156 ?_
  exact x_zret d_Model_finds_157 rfl w_157 kr
theorem s_Model_holds_0 {G : xw_G} {F L bc bs : Nat} {pr : Option Value → xw_A → Prop} {px : String → xw_A → Prop} {h : xw_A} {a0 : Nat} {x1 : Int32} {x2 : Int32}  (k : xw G m_Model_holds F L bc bs pr px 2 [some (.ref a0), some (.int x1), some (.int x2), some (.int 0)] [] h) : xw G m_Model_holds F L bc bs pr px 0 [some (.ref a0), some (.int x1), some (.int x2), none] [] h := by
  refine x_iconst (v := 0) d_Model_holds_0 (by decide) ?_
  refine x_istore_n d_Model_holds_1 rfl (by decide) rfl ?_
  show xw G m_Model_holds F L bc bs pr px 2 [some (.ref a0), some (.int x1), some (.int x2), some (.int 0)] [] h
  exact k
theorem s_Model_holds_2 {G : xw_G} {F L bc bs : Nat} {pr : Option Value → xw_A → Prop} {px : String → xw_A → Prop} {h : xw_A} {a0 : Nat} {x1 : Int32} {x2 : Int32} {x3 : Int32}  (kt : 2 ≤ x3 → xw G m_Model_holds F L bc bs pr px 43 [none, none, none, none] [] h) (kf : ¬ 2 ≤ x3 → xw G m_Model_holds F L bc bs pr px 7 [some (.ref a0), some (.int x1), some (.int x2), some (.int x3)] [] h) : xw G m_Model_holds F L bc bs pr px 2 [some (.ref a0), some (.int x1), some (.int x2), some (.int x3)] [] h := by
  refine x_iload_n d_Model_holds_2 rfl rfl ?_
  refine x_iconst (v := 2) d_Model_holds_3 (by decide) ?_
  refine x_icmp_ge (tgt := 43) d_Model_holds_4 (by decide) (fun hc => ?_) (fun hc => ?_)
  · exact x_le (lv' := [none, none, none, none]) (xw_le_n (xw_le_n (xw_le_n (xw_le_n xw_le_e)))) (kt hc)
  · exact kf hc
theorem s_Model_holds_7 {G : xw_G} {F L bc bs : Nat} {pr : Option Value → xw_A → Prop} {px : String → xw_A → Prop} {h : xw_A} {a0 : Nat} {x1 : Int32} {x2 : Int32} {x3 : Int32} {fs_a0 : List Value} {groupMask_a0 : Nat} {n_groupMask_a0 : Nat} {f_groupMask_a0 : Nat → Int32} (l_a0 : fs_a0.length = 62) (e_a0 : h a0 = some (.inr (11, fs_a0))) (g_a0_groupMask : fs_a0[(48 : Nat)]? = some (.ref groupMask_a0)) (e_groupMask_a0 : h groupMask_a0 = some (.inl (0, n_groupMask_a0, .inl f_groupMask_a0))) (i_12 : vp_in x1 n_groupMask_a0) (kt : ¬ (((f_groupMask_a0 x1.toNatClampNeg) >>> (x3 &&& 31)) &&& 1) = 1 → xw G m_Model_holds F L bc bs pr px 37 [some (.ref a0), some (.int x1), some (.int x2), some (.int x3)] [] h) (kf : (((f_groupMask_a0 x1.toNatClampNeg) >>> (x3 &&& 31)) &&& 1) = 1 → xw G m_Model_holds F L bc bs pr px 21 [some (.ref a0), some (.int x1), some (.int x2), some (.int x3)] [] h) : xw G m_Model_holds F L bc bs pr px 7 [some (.ref a0), some (.int x1), some (.int x2), some (.int x3)] [] h := by
  refine x_aload_n d_Model_holds_7 rfl rfl ?_
  refine x_get d_Model_holds_8 f_Model_95 e_a0 g_a0_groupMask ?_
  refine x_iload_n d_Model_holds_11 rfl rfl ?_
  refine x_iald d_Model_holds_12 e_groupMask_a0 i_12 ?_
  refine x_iload_n d_Model_holds_13 rfl rfl ?_
  refine x_ishr d_Model_holds_14 ?_
  refine x_iconst (v := 1) d_Model_holds_15 (by decide) ?_
  refine x_iand d_Model_holds_16 ?_
  refine x_iconst (v := 1) d_Model_holds_17 (by decide) ?_
  refine x_icmp_ne (tgt := 37) d_Model_holds_18 (by decide) (fun hc => ?_) (fun hc => ?_)
  · exact kt hc
  · exact kf hc
theorem s_Model_holds_21 {G : xw_G} {F L bc bs : Nat} {pr : Option Value → xw_A → Prop} {px : String → xw_A → Prop} {h : xw_A} {a0 : Nat} {x1 : Int32} {x2 : Int32} {x3 : Int32}  (k : xw G m_Model_holds F L bc bs pr px 24 [some (.ref a0), some (.int x1), some (.int x2), some (.int x3)] [.int x3, .int x2, .ref a0] h) : xw G m_Model_holds F L bc bs pr px 21 [some (.ref a0), some (.int x1), some (.int x2), some (.int x3)] [] h := by
  refine x_aload_n d_Model_holds_21 rfl rfl ?_
  refine x_iload_n d_Model_holds_22 rfl rfl ?_
  refine x_iload_n d_Model_holds_23 rfl rfl ?_
  exact k
theorem s_Model_holds_27 {G : xw_G} {F L bc bs : Nat} {pr : Option Value → xw_A → Prop} {px : String → xw_A → Prop} {h : xw_A} {a0 : Nat} {x1 : Int32} {x2 : Int32} {x3 : Int32}  (k : xw G m_Model_holds F L bc bs pr px 29 [some (.ref a0), some (.int x1), some (.int x2), some (.int x3)] [.int x1, .ref a0] h) : xw G m_Model_holds F L bc bs pr px 27 [some (.ref a0), some (.int x1), some (.int x2), some (.int x3)] [] h := by
  refine x_aload_n d_Model_holds_27 rfl rfl ?_
  refine x_iload_n d_Model_holds_28 rfl rfl ?_
  exact k
theorem s_Model_holds_32 {G : xw_G} {F L bc bs : Nat} {pr : Option Value → xw_A → Prop} {px : String → xw_A → Prop} {h : xw_A} {a0 : Nat} {x1 : Int32} {x2 : Int32} {x3 : Int32} {y0 : Int32}  (kt : y0 = 0 → xw G m_Model_holds F L bc bs pr px 37 [some (.ref a0), some (.int x1), some (.int x2), some (.int x3)] [] h) (kf : ¬ y0 = 0 → xw G m_Model_holds F L bc bs pr px 35 [none, none, none, none] [] h) : xw G m_Model_holds F L bc bs pr px 32 [some (.ref a0), some (.int x1), some (.int x2), some (.int x3)] [.int y0] h := by
  refine x_if_eq (tgt := 37) d_Model_holds_32 (by decide) (fun hc => ?_) (fun hc => ?_)
  · exact kt hc
  · exact x_le (lv' := [none, none, none, none]) (xw_le_n (xw_le_n (xw_le_n (xw_le_n xw_le_e)))) (kf hc)
theorem s_Model_holds_35 {G : xw_G} {F L bc bs : Nat} {pr : Option Value → xw_A → Prop} {px : String → xw_A → Prop} {h : xw_A}   (kr : pr (some (.int 1)) h) : xw G m_Model_holds F L bc bs pr px 35 [none, none, none, none] [] h := by
  refine x_iconst (v := 1) d_Model_holds_35 (by decide) ?_
  exact x_zret d_Model_holds_36 rfl rfl kr
theorem s_Model_holds_37 {G : xw_G} {F L bc bs : Nat} {pr : Option Value → xw_A → Prop} {px : String → xw_A → Prop} {h : xw_A} {a0 : Nat} {x1 : Int32} {x2 : Int32} {x3 : Int32}  (k : xw G m_Model_holds F L bc bs pr px 2 [some (.ref a0), some (.int x1), some (.int x2), some (.int (x3 + 1))] [] h) : xw G m_Model_holds F L bc bs pr px 37 [some (.ref a0), some (.int x1), some (.int x2), some (.int x3)] [] h := by
  refine x_iinc (v := x3 + 1) d_Model_holds_37 rfl (by rfl) (by decide) rfl ?_
  show xw G m_Model_holds F L bc bs pr px 40 [some (.ref a0), some (.int x1), some (.int x2), some (.int (x3 + 1))] [] h
  refine x_goto (tgt := 2) d_Model_holds_40 (by decide) ?_
  exact k
theorem s_Model_holds_43 {G : xw_G} {F L bc bs : Nat} {pr : Option Value → xw_A → Prop} {px : String → xw_A → Prop} {h : xw_A}   (kr : pr (some (.int 0)) h) : xw G m_Model_holds F L bc bs pr px 43 [none, none, none, none] [] h := by
  refine x_iconst (v := 0) d_Model_holds_43 (by decide) ?_
  exact x_zret d_Model_holds_44 rfl rfl kr
theorem s_Model_holdsHere_0 {G : xw_G} {F L bc bs : Nat} {pr : Option Value → xw_A → Prop} {px : String → xw_A → Prop} {h : xw_A} {a0 : Nat} {x1 : Int32} {fs_a0 : List Value} {groupPhrase_a0 : Nat} {n_groupPhrase_a0 : Nat} {f_groupPhrase_a0 : Nat → Int32} {groupKind_a0 : Nat} {n_groupKind_a0 : Nat} {f_groupKind_a0 : Nat → Int32} (l_a0 : fs_a0.length = 62) (e_a0 : h a0 = some (.inr (11, fs_a0))) (g_a0_groupPhrase : fs_a0[(46 : Nat)]? = some (.ref groupPhrase_a0)) (e_groupPhrase_a0 : h groupPhrase_a0 = some (.inl (0, n_groupPhrase_a0, .inl f_groupPhrase_a0))) (i_5 : vp_in x1 n_groupPhrase_a0) (g_a0_groupKind : fs_a0[(45 : Nat)]? = some (.ref groupKind_a0)) (e_groupKind_a0 : h groupKind_a0 = some (.inl (0, n_groupKind_a0, .inl f_groupKind_a0))) (i_12 : vp_in x1 n_groupKind_a0) (kt : ¬ (f_groupKind_a0 x1.toNatClampNeg) = 1 → xw G m_Model_holdsHere F L bc bs pr px 24 [some (.ref a0), some (.int x1), some (.int (f_groupPhrase_a0 x1.toNatClampNeg)), none, none, none] [] h) (kf : (f_groupKind_a0 x1.toNatClampNeg) = 1 → xw G m_Model_holdsHere F L bc bs pr px 17 [some (.ref a0), none, some (.int (f_groupPhrase_a0 x1.toNatClampNeg)), none, none, none] [] h) : xw G m_Model_holdsHere F L bc bs pr px 0 [some (.ref a0), some (.int x1), none, none, none, none] [] h := by
  refine x_aload_n d_Model_holdsHere_0 rfl rfl ?_
  refine x_get d_Model_holdsHere_1 f_Model_89 e_a0 g_a0_groupPhrase ?_
  refine x_iload_n d_Model_holdsHere_4 rfl rfl ?_
  refine x_iald d_Model_holdsHere_5 e_groupPhrase_a0 i_5 ?_
  refine x_istore_n d_Model_holdsHere_6 rfl (by decide) rfl ?_
  show xw G m_Model_holdsHere F L bc bs pr px 7 [some (.ref a0), some (.int x1), some (.int (f_groupPhrase_a0 x1.toNatClampNeg)), none, none, none] [] h
  refine x_aload_n d_Model_holdsHere_7 rfl rfl ?_
  refine x_get d_Model_holdsHere_8 f_Model_86 e_a0 g_a0_groupKind ?_
  refine x_iload_n d_Model_holdsHere_11 rfl rfl ?_
  refine x_iald d_Model_holdsHere_12 e_groupKind_a0 i_12 ?_
  refine x_iconst (v := 1) d_Model_holdsHere_13 (by decide) ?_
  refine x_icmp_ne (tgt := 24) d_Model_holdsHere_14 (by decide) (fun hc => ?_) (fun hc => ?_)
  · exact kt hc
  · exact x_le (lv' := [some (.ref a0), none, some (.int (f_groupPhrase_a0 x1.toNatClampNeg)), none, none, none]) (xw_le_s (xw_le_n (xw_le_s (xw_le_n (xw_le_n (xw_le_n xw_le_e)))))) (kf hc)
theorem s_Model_holdsHere_17 {G : xw_G} {F L bc bs : Nat} {pr : Option Value → xw_A → Prop} {px : String → xw_A → Prop} {h : xw_A} {a0 : Nat} {x2 : Int32}  (k : xw G m_Model_holdsHere F L bc bs pr px 20 [some (.ref a0), none, some (.int x2), none, none, none] [.int 0, .int x2, .ref a0] h) : xw G m_Model_holdsHere F L bc bs pr px 17 [some (.ref a0), none, some (.int x2), none, none, none] [] h := by
  refine x_aload_n d_Model_holdsHere_17 rfl rfl ?_
  refine x_iload_n d_Model_holdsHere_18 rfl rfl ?_
  refine x_iconst (v := 0) d_Model_holdsHere_19 (by decide) ?_
  exact k
theorem s_Model_holdsHere_23 {G : xw_G} {F L bc bs : Nat} {pr : Option Value → xw_A → Prop} {px : String → xw_A → Prop} {h : xw_A} {y0 : Int32} (w_23 : narrow .boolean (.int y0) = .int y0) (kr : pr (some (.int y0)) h) : xw G m_Model_holdsHere F L bc bs pr px 23 [none, none, none, none, none, none] [.int y0] h := by
  exact x_zret d_Model_holdsHere_23 rfl w_23 kr
theorem s_Model_holdsHere_24 {G : xw_G} {F L bc bs : Nat} {pr : Option Value → xw_A → Prop} {px : String → xw_A → Prop} {h : xw_A} {a0 : Nat} {x1 : Int32} {x2 : Int32} {fs_a0 : List Value} {groupKind_a0 : Nat} {n_groupKind_a0 : Nat} {f_groupKind_a0 : Nat → Int32} (l_a0 : fs_a0.length = 62) (e_a0 : h a0 = some (.inr (11, fs_a0))) (g_a0_groupKind : fs_a0[(45 : Nat)]? = some (.ref groupKind_a0)) (e_groupKind_a0 : h groupKind_a0 = some (.inl (0, n_groupKind_a0, .inl f_groupKind_a0))) (i_29 : vp_in x1 n_groupKind_a0) (kt : ¬ (f_groupKind_a0 x1.toNatClampNeg) = 0 → xw G m_Model_holdsHere F L bc bs pr px 42 [some (.ref a0), some (.int x1), some (.int x2), none, none, none] [] h) (kf : (f_groupKind_a0 x1.toNatClampNeg) = 0 → xw G m_Model_holdsHere F L bc bs pr px 33 [some (.ref a0), none, some (.int x2), none, none, none] [] h) : xw G m_Model_holdsHere F L bc bs pr px 24 [some (.ref a0), some (.int x1), some (.int x2), none, none, none] [] h := by
  refine x_aload_n d_Model_holdsHere_24 rfl rfl ?_
  refine x_get d_Model_holdsHere_25 f_Model_86 e_a0 g_a0_groupKind ?_
  refine x_iload_n d_Model_holdsHere_28 rfl rfl ?_
  refine x_iald d_Model_holdsHere_29 e_groupKind_a0 i_29 ?_
  refine x_if_ne (tgt := 42) d_Model_holdsHere_30 (by decide) (fun hc => ?_) (fun hc => ?_)
  · exact kt hc
  · exact x_le (lv' := [some (.ref a0), none, some (.int x2), none, none, none]) (xw_le_s (xw_le_n (xw_le_s (xw_le_n (xw_le_n (xw_le_n xw_le_e)))))) (kf hc)
theorem s_Model_holdsHere_33 {G : xw_G} {F L bc bs : Nat} {pr : Option Value → xw_A → Prop} {px : String → xw_A → Prop} {h : xw_A} {a0 : Nat} {x2 : Int32}  (k : xw G m_Model_holdsHere F L bc bs pr px 38 [some (.ref a0), none, some (.int x2), none, none, none] [.int 48, .int 0, .int x2, .ref a0] h) : xw G m_Model_holdsHere F L bc bs pr px 33 [some (.ref a0), none, some (.int x2), none, none, none] [] h := by
  refine x_aload_n d_Model_holdsHere_33 rfl rfl ?_
  refine x_iload_n d_Model_holdsHere_34 rfl rfl ?_
  refine x_iconst (v := 0) d_Model_holdsHere_35 (by decide) ?_
  refine x_bipush (v := 48) d_Model_holdsHere_36 (by decide) ?_
  exact k
theorem s_Model_holdsHere_41 {G : xw_G} {F L bc bs : Nat} {pr : Option Value → xw_A → Prop} {px : String → xw_A → Prop} {h : xw_A} {y0 : Int32} (w_41 : narrow .boolean (.int y0) = .int y0) (kr : pr (some (.int y0)) h) : xw G m_Model_holdsHere F L bc bs pr px 41 [none, none, none, none, none, none] [.int y0] h := by
  exact x_zret d_Model_holdsHere_41 rfl w_41 kr
theorem s_Model_holdsHere_42 {G : xw_G} {F L bc bs : Nat} {pr : Option Value → xw_A → Prop} {px : String → xw_A → Prop} {h : xw_A} {a0 : Nat} {x1 : Int32} {x2 : Int32}  (k : xw G m_Model_holdsHere F L bc bs pr px 44 [some (.ref a0), some (.int x1), some (.int x2), some (.int 0), none, none] [] h) : xw G m_Model_holdsHere F L bc bs pr px 42 [some (.ref a0), some (.int x1), some (.int x2), none, none, none] [] h := by
  refine x_iconst (v := 0) d_Model_holdsHere_42 (by decide) ?_
  refine x_istore_n d_Model_holdsHere_43 rfl (by decide) rfl ?_
  show xw G m_Model_holdsHere F L bc bs pr px 44 [some (.ref a0), some (.int x1), some (.int x2), some (.int 0), none, none] [] h
  exact k
theorem s_Model_holdsHere_44 {G : xw_G} {F L bc bs : Nat} {pr : Option Value → xw_A → Prop} {px : String → xw_A → Prop} {h : xw_A} {a0 : Nat} {x1 : Int32} {x2 : Int32} {x3 : Int32} {fs_a0 : List Value} {column_a0 : Int32} (l_a0 : fs_a0.length = 62) (e_a0 : h a0 = some (.inr (11, fs_a0))) (g_a0_column : fs_a0[(55 : Nat)]? = some (.int column_a0)) (kt : column_a0 < x3 → xw G m_Model_holdsHere F L bc bs pr px 110 [none, none, none, none, none, none] [] h) (kf : ¬ column_a0 < x3 → xw G m_Model_holdsHere F L bc bs pr px 52 [some (.ref a0), some (.int x1), some (.int x2), some (.int x3), none, none] [] h) : xw G m_Model_holdsHere F L bc bs pr px 44 [some (.ref a0), some (.int x1), some (.int x2), some (.int x3), none, none] [] h := by
  refine x_iload_n d_Model_holdsHere_44 rfl rfl ?_
  refine x_aload_n d_Model_holdsHere_45 rfl rfl ?_
  refine x_get d_Model_holdsHere_46 f_Model_150 e_a0 g_a0_column ?_
  refine x_icmp_gt (tgt := 110) d_Model_holdsHere_49 (by decide) (fun hc => ?_) (fun hc => ?_)
  · exact x_le (lv' := [none, none, none, none, none, none]) (xw_le_n (xw_le_n (xw_le_n (xw_le_n (xw_le_n (xw_le_n xw_le_e)))))) (kt hc)
  · exact kf hc
theorem s_Model_holdsHere_52 {G : xw_G} {F L bc bs : Nat} {pr : Option Value → xw_A → Prop} {px : String → xw_A → Prop} {h : xw_A} {a0 : Nat} {x1 : Int32} {x2 : Int32} {x3 : Int32}  (k : xw G m_Model_holdsHere F L bc bs pr px 58 [some (.ref a0), some (.int x1), some (.int x2), some (.int x3), some (.int 1), some (.int 0)] [] h) : xw G m_Model_holdsHere F L bc bs pr px 52 [some (.ref a0), some (.int x1), some (.int x2), some (.int x3), none, none] [] h := by
  refine x_iconst (v := 1) d_Model_holdsHere_52 (by decide) ?_
  refine x_istore d_Model_holdsHere_53 (by decide) rfl ?_
  show xw G m_Model_holdsHere F L bc bs pr px 55 [some (.ref a0), some (.int x1), some (.int x2), some (.int x3), some (.int 1), none] [] h
  refine x_iconst (v := 0) d_Model_holdsHere_55 (by decide) ?_
  refine x_istore d_Model_holdsHere_56 (by decide) rfl ?_
  show xw G m_Model_holdsHere F L bc bs pr px 58 [some (.ref a0), some (.int x1), some (.int x2), some (.int x3), some (.int 1), some (.int 0)] [] h
  exact k
theorem s_Model_holdsHere_58 {G : xw_G} {F L bc bs : Nat} {pr : Option Value → xw_A → Prop} {px : String → xw_A → Prop} {h : xw_A} {a0 : Nat} {x1 : Int32} {x2 : Int32} {x3 : Int32} {x4 : Int32} {x5 : Int32} {fs_a0 : List Value} {groupSize_a0 : Nat} {n_groupSize_a0 : Nat} {f_groupSize_a0 : Nat → Int32} (l_a0 : fs_a0.length = 62) (e_a0 : h a0 = some (.inr (11, fs_a0))) (g_a0_groupSize : fs_a0[(47 : Nat)]? = some (.ref groupSize_a0)) (e_groupSize_a0 : h groupSize_a0 = some (.inl (0, n_groupSize_a0, .inl f_groupSize_a0))) (i_65 : vp_in x1 n_groupSize_a0) (kt : (f_groupSize_a0 x1.toNatClampNeg) ≤ x5 → xw G m_Model_holdsHere F L bc bs pr px 97 [some (.ref a0), some (.int x1), some (.int x2), some (.int x3), some (.int x4), none] [] h) (kf : ¬ (f_groupSize_a0 x1.toNatClampNeg) ≤ x5 → xw G m_Model_holdsHere F L bc bs pr px 69 [some (.ref a0), some (.int x1), some (.int x2), some (.int x3), some (.int x4), some (.int x5)] [] h) : xw G m_Model_holdsHere F L bc bs pr px 58 [some (.ref a0), some (.int x1), some (.int x2), some (.int x3), some (.int x4), some (.int x5)] [] h := by
  refine x_iload d_Model_holdsHere_58 rfl ?_
  refine x_aload_n d_Model_holdsHere_60 rfl rfl ?_
  refine x_get d_Model_holdsHere_61 f_Model_92 e_a0 g_a0_groupSize ?_
  refine x_iload_n d_Model_holdsHere_64 rfl rfl ?_
  refine x_iald d_Model_holdsHere_65 e_groupSize_a0 i_65 ?_
  refine x_icmp_ge (tgt := 97) d_Model_holdsHere_66 (by decide) (fun hc => ?_) (fun hc => ?_)
  · exact x_le (lv' := [some (.ref a0), some (.int x1), some (.int x2), some (.int x3), some (.int x4), none]) (xw_le_s (xw_le_s (xw_le_s (xw_le_s (xw_le_s (xw_le_n xw_le_e)))))) (kt hc)
  · exact kf hc
theorem s_Model_holdsHere_69 {G : xw_G} {F L bc bs : Nat} {pr : Option Value → xw_A → Prop} {px : String → xw_A → Prop} {h : xw_A} {a0 : Nat} {x1 : Int32} {x2 : Int32} {x3 : Int32} {x4 : Int32} {x5 : Int32} {fs_a0 : List Value} {groupFar_a0 : Nat} {n_groupFar_a0 : Nat} {f_groupFar_a0 : Nat → Int32} (l_a0 : fs_a0.length = 62) (e_a0 : h a0 = some (.inr (11, fs_a0))) (g_a0_groupFar : fs_a0[(49 : Nat)]? = some (.ref groupFar_a0)) (e_groupFar_a0 : h groupFar_a0 = some (.inl (0, n_groupFar_a0, .inl f_groupFar_a0))) (i_83 : vp_in x1 n_groupFar_a0) (k : xw G m_Model_holdsHere F L bc bs pr px 85 [some (.ref a0), some (.int x1), some (.int x2), some (.int x3), some (.int x4), some (.int x5)] [.int (x3 + (f_groupFar_a0 x1.toNatClampNeg)), .int x3, .int (x2 + x5), .ref a0, .int x4] h) : xw G m_Model_holdsHere F L bc bs pr px 69 [some (.ref a0), some (.int x1), some (.int x2), some (.int x3), some (.int x4), some (.int x5)] [] h := by
  refine x_iload d_Model_holdsHere_69 rfl ?_
  refine x_aload_n d_Model_holdsHere_71 rfl rfl ?_
  refine x_iload_n d_Model_holdsHere_72 rfl rfl ?_
  refine x_iload d_Model_holdsHere_73 rfl ?_
  refine x_iadd d_Model_holdsHere_75 ?_
  refine x_iload_n d_Model_holdsHere_76 rfl rfl ?_
  refine x_iload_n d_Model_holdsHere_77 rfl rfl ?_
  refine x_aload_n d_Model_holdsHere_78 rfl rfl ?_
  refine x_get d_Model_holdsHere_79 f_Model_98 e_a0 g_a0_groupFar ?_
  refine x_iload_n d_Model_holdsHere_82 rfl rfl ?_
  refine x_iald d_Model_holdsHere_83 e_groupFar_a0 i_83 ?_
  refine x_iadd d_Model_holdsHere_84 ?_
  exact k
theorem s_Model_holdsHere_88 {G : xw_G} {F L bc bs : Nat} {pr : Option Value → xw_A → Prop} {px : String → xw_A → Prop} {h : xw_A} {a0 : Nat} {x1 : Int32} {x2 : Int32} {x3 : Int32} {x5 : Int32} {y0 : Int32} {y1 : Int32}  (k : xw G m_Model_holdsHere F L bc bs pr px 58 [some (.ref a0), some (.int x1), some (.int x2), some (.int x3), some (.int (y1 &&& y0)), some (.int (x5 + 1))] [] h) : xw G m_Model_holdsHere F L bc bs pr px 88 [some (.ref a0), some (.int x1), some (.int x2), some (.int x3), none, some (.int x5)] [.int y0, .int y1] h := by
  refine x_iand d_Model_holdsHere_88 ?_
  refine x_istore d_Model_holdsHere_89 (by decide) rfl ?_
  show xw G m_Model_holdsHere F L bc bs pr px 91 [some (.ref a0), some (.int x1), some (.int x2), some (.int x3), some (.int (y1 &&& y0)), some (.int x5)] [] h
  refine x_iinc (v := x5 + 1) d_Model_holdsHere_91 rfl (by rfl) (by decide) rfl ?_
  show xw G m_Model_holdsHere F L bc bs pr px 94 [some (.ref a0), some (.int x1), some (.int x2), some (.int x3), some (.int (y1 &&& y0)), some (.int (x5 + 1))] [] h
  refine x_goto (tgt := 58) d_Model_holdsHere_94 (by decide) ?_
  exact k
theorem s_Model_holdsHere_97 {G : xw_G} {F L bc bs : Nat} {pr : Option Value → xw_A → Prop} {px : String → xw_A → Prop} {h : xw_A} {a0 : Nat} {x1 : Int32} {x2 : Int32} {x3 : Int32} {x4 : Int32}  (kt : x4 = 0 → xw G m_Model_holdsHere F L bc bs pr px 104 [some (.ref a0), some (.int x1), some (.int x2), some (.int x3), none, none] [] h) (kf : ¬ x4 = 0 → xw G m_Model_holdsHere F L bc bs pr px 102 [none, none, none, none, none, none] [] h) : xw G m_Model_holdsHere F L bc bs pr px 97 [some (.ref a0), some (.int x1), some (.int x2), some (.int x3), some (.int x4), none] [] h := by
  refine x_iload d_Model_holdsHere_97 rfl ?_
  refine x_if_eq (tgt := 104) d_Model_holdsHere_99 (by decide) (fun hc => ?_) (fun hc => ?_)
  · exact x_le (lv' := [some (.ref a0), some (.int x1), some (.int x2), some (.int x3), none, none]) (xw_le_s (xw_le_s (xw_le_s (xw_le_s (xw_le_n (xw_le_n xw_le_e)))))) (kt hc)
  · exact x_le (lv' := [none, none, none, none, none, none]) (xw_le_n (xw_le_n (xw_le_n (xw_le_n (xw_le_n (xw_le_n xw_le_e)))))) (kf hc)
theorem s_Model_holdsHere_102 {G : xw_G} {F L bc bs : Nat} {pr : Option Value → xw_A → Prop} {px : String → xw_A → Prop} {h : xw_A}   (kr : pr (some (.int 1)) h) : xw G m_Model_holdsHere F L bc bs pr px 102 [none, none, none, none, none, none] [] h := by
  refine x_iconst (v := 1) d_Model_holdsHere_102 (by decide) ?_
  exact x_zret d_Model_holdsHere_103 rfl rfl kr
theorem s_Model_holdsHere_104 {G : xw_G} {F L bc bs : Nat} {pr : Option Value → xw_A → Prop} {px : String → xw_A → Prop} {h : xw_A} {a0 : Nat} {x1 : Int32} {x2 : Int32} {x3 : Int32}  (k : xw G m_Model_holdsHere F L bc bs pr px 44 [some (.ref a0), some (.int x1), some (.int x2), some (.int (x3 + 1)), none, none] [] h) : xw G m_Model_holdsHere F L bc bs pr px 104 [some (.ref a0), some (.int x1), some (.int x2), some (.int x3), none, none] [] h := by
  refine x_iinc (v := x3 + 1) d_Model_holdsHere_104 rfl (by rfl) (by decide) rfl ?_
  show xw G m_Model_holdsHere F L bc bs pr px 107 [some (.ref a0), some (.int x1), some (.int x2), some (.int (x3 + 1)), none, none] [] h
  refine x_goto (tgt := 44) d_Model_holdsHere_107 (by decide) ?_
  exact k
theorem s_Model_holdsHere_110 {G : xw_G} {F L bc bs : Nat} {pr : Option Value → xw_A → Prop} {px : String → xw_A → Prop} {h : xw_A}   (kr : pr (some (.int 0)) h) : xw G m_Model_holdsHere F L bc bs pr px 110 [none, none, none, none, none, none] [] h := by
  refine x_iconst (v := 0) d_Model_holdsHere_110 (by decide) ?_
  exact x_zret d_Model_holdsHere_111 rfl rfl kr
theorem s_Model_stands_0 {G : xw_G} {F L bc bs : Nat} {pr : Option Value → xw_A → Prop} {px : String → xw_A → Prop} {h : xw_A} {a0 : Nat} {x1 : Int32} {x2 : Int32}  (k : xw G m_Model_stands F L bc bs pr px 2 [some (.ref a0), some (.int x1), some (.int x2), none, none, none] [.int x1, .ref a0] h) : xw G m_Model_stands F L bc bs pr px 0 [some (.ref a0), some (.int x1), some (.int x2), none, none, none] [] h := by
  refine x_aload_n d_Model_stands_0 rfl rfl ?_
  refine x_iload_n d_Model_stands_1 rfl rfl ?_
  exact k
theorem s_Model_stands_5 {G : xw_G} {F L bc bs : Nat} {pr : Option Value → xw_A → Prop} {px : String → xw_A → Prop} {h : xw_A} {a0 : Nat} {x1 : Int32} {x2 : Int32} {y0 : Int32}  (kt : y0 = 0 → xw G m_Model_stands F L bc bs pr px 20 [none, none, none, none, none, none] [] h) (kf : ¬ y0 = 0 → xw G m_Model_stands F L bc bs pr px 10 [some (.ref a0), some (.int x1), some (.int x2), some (.int y0), none, none] [] h) : xw G m_Model_stands F L bc bs pr px 5 [some (.ref a0), some (.int x1), some (.int x2), none, none, none] [.int y0] h := by
  refine x_istore_n d_Model_stands_5 rfl (by decide) rfl ?_
  show xw G m_Model_stands F L bc bs pr px 6 [some (.ref a0), some (.int x1), some (.int x2), some (.int y0), none, none] [] h
  refine x_iload_n d_Model_stands_6 rfl rfl ?_
  refine x_if_eq (tgt := 20) d_Model_stands_7 (by decide) (fun hc => ?_) (fun hc => ?_)
  · exact x_le (lv' := [none, none, none, none, none, none]) (xw_le_n (xw_le_n (xw_le_n (xw_le_n (xw_le_n (xw_le_n xw_le_e)))))) (kt hc)
  · exact kf hc
theorem s_Model_stands_10 {G : xw_G} {F L bc bs : Nat} {pr : Option Value → xw_A → Prop} {px : String → xw_A → Prop} {h : xw_A} {a0 : Nat} {x1 : Int32} {x2 : Int32} {x3 : Int32} {fs_a0 : List Value} {column_a0 : Int32} (l_a0 : fs_a0.length = 62) (e_a0 : h a0 = some (.inr (11, fs_a0))) (g_a0_column : fs_a0[(55 : Nat)]? = some (.int column_a0)) (kt : (x2 + x3) ≤ column_a0 → xw G m_Model_stands F L bc bs pr px 22 [some (.ref a0), some (.int x1), some (.int x2), some (.int x3), none, none] [] h) (kf : ¬ (x2 + x3) ≤ column_a0 → xw G m_Model_stands F L bc bs pr px 20 [none, none, none, none, none, none] [] h) : xw G m_Model_stands F L bc bs pr px 10 [some (.ref a0), some (.int x1), some (.int x2), some (.int x3), none, none] [] h := by
  refine x_iload_n d_Model_stands_10 rfl rfl ?_
  refine x_iload_n d_Model_stands_11 rfl rfl ?_
  refine x_iadd d_Model_stands_12 ?_
  refine x_aload_n d_Model_stands_13 rfl rfl ?_
  refine x_get d_Model_stands_14 f_Model_150 e_a0 g_a0_column ?_
  refine x_icmp_le (tgt := 22) d_Model_stands_17 (by decide) (fun hc => ?_) (fun hc => ?_)
  · exact kt hc
  · exact x_le (lv' := [none, none, none, none, none, none]) (xw_le_n (xw_le_n (xw_le_n (xw_le_n (xw_le_n (xw_le_n xw_le_e)))))) (kf hc)
theorem s_Model_stands_20 {G : xw_G} {F L bc bs : Nat} {pr : Option Value → xw_A → Prop} {px : String → xw_A → Prop} {h : xw_A}   (kr : pr (some (.int 0)) h) : xw G m_Model_stands F L bc bs pr px 20 [none, none, none, none, none, none] [] h := by
  refine x_iconst (v := 0) d_Model_stands_20 (by decide) ?_
  exact x_zret d_Model_stands_21 rfl rfl kr
theorem s_Model_stands_22 {G : xw_G} {F L bc bs : Nat} {pr : Option Value → xw_A → Prop} {px : String → xw_A → Prop} {h : xw_A} {a0 : Nat} {x1 : Int32} {x2 : Int32} {x3 : Int32}  (k : xw G m_Model_stands F L bc bs pr px 25 [some (.ref a0), some (.int x1), some (.int x2), some (.int x3), some (.int 0), none] [] h) : xw G m_Model_stands F L bc bs pr px 22 [some (.ref a0), some (.int x1), some (.int x2), some (.int x3), none, none] [] h := by
  refine x_iconst (v := 0) d_Model_stands_22 (by decide) ?_
  refine x_istore d_Model_stands_23 (by decide) rfl ?_
  show xw G m_Model_stands F L bc bs pr px 25 [some (.ref a0), some (.int x1), some (.int x2), some (.int x3), some (.int 0), none] [] h
  exact k
theorem s_Model_stands_25 {G : xw_G} {F L bc bs : Nat} {pr : Option Value → xw_A → Prop} {px : String → xw_A → Prop} {h : xw_A} {a0 : Nat} {x1 : Int32} {x2 : Int32} {x3 : Int32} {x4 : Int32}  (kt : x3 ≤ x4 → xw G m_Model_stands F L bc bs pr px 86 [none, none, none, none, none, none] [] h) (kf : ¬ x3 ≤ x4 → xw G m_Model_stands F L bc bs pr px 31 [some (.ref a0), some (.int x1), some (.int x2), some (.int x3), some (.int x4), none] [] h) : xw G m_Model_stands F L bc bs pr px 25 [some (.ref a0), some (.int x1), some (.int x2), some (.int x3), some (.int x4), none] [] h := by
  refine x_iload d_Model_stands_25 rfl ?_
  refine x_iload_n d_Model_stands_27 rfl rfl ?_
  refine x_icmp_ge (tgt := 86) d_Model_stands_28 (by decide) (fun hc => ?_) (fun hc => ?_)
  · exact x_le (lv' := [none, none, none, none, none, none]) (xw_le_n (xw_le_n (xw_le_n (xw_le_n (xw_le_n (xw_le_n xw_le_e)))))) (kt hc)
  · exact kf hc
theorem s_Model_stands_31 {G : xw_G} {F L bc bs : Nat} {pr : Option Value → xw_A → Prop} {px : String → xw_A → Prop} {h : xw_A} {a0 : Nat} {x1 : Int32} {x2 : Int32} {x3 : Int32} {x4 : Int32} {fs_a0 : List Value} {firstToken_a0 : Nat} {n_firstToken_a0 : Nat} {f_firstToken_a0 : Nat → Int32} {starred_a0 : Nat} {n_starred_a0 : Nat} {f_starred_a0 : Nat → Int32} (l_a0 : fs_a0.length = 62) (e_a0 : h a0 = some (.inr (11, fs_a0))) (g_a0_firstToken : fs_a0[(41 : Nat)]? = some (.ref firstToken_a0)) (e_firstToken_a0 : h firstToken_a0 = some (.inl (0, n_firstToken_a0, .inl f_firstToken_a0))) (i_41 : vp_in x1 n_firstToken_a0) (g_a0_starred : fs_a0[(42 : Nat)]? = some (.ref starred_a0)) (e_starred_a0 : h starred_a0 = some (.inl (0, n_starred_a0, .inl f_starred_a0))) (i_50 : vp_in x1 n_starred_a0) (kt : ¬ (f_starred_a0 x1.toNatClampNeg) = 1 → xw G m_Model_stands F L bc bs pr px 67 [some (.ref a0), some (.int x1), some (.int x2), some (.int x3), some (.int x4), none] [.int ((f_firstToken_a0 x1.toNatClampNeg) + x4), .int (x2 + x4), .ref a0] h) (kf : (f_starred_a0 x1.toNatClampNeg) = 1 → xw G m_Model_stands F L bc bs pr px 55 [some (.ref a0), some (.int x1), some (.int x2), some (.int x3), some (.int x4), none] [.int ((f_firstToken_a0 x1.toNatClampNeg) + x4), .int (x2 + x4), .ref a0] h) : xw G m_Model_stands F L bc bs pr px 31 [some (.ref a0), some (.int x1), some (.int x2), some (.int x3), some (.int x4), none] [] h := by
  refine x_aload_n d_Model_stands_31 rfl rfl ?_
  refine x_iload_n d_Model_stands_32 rfl rfl ?_
  refine x_iload d_Model_stands_33 rfl ?_
  refine x_iadd d_Model_stands_35 ?_
  refine x_aload_n d_Model_stands_36 rfl rfl ?_
  refine x_get d_Model_stands_37 f_Model_74 e_a0 g_a0_firstToken ?_
  refine x_iload_n d_Model_stands_40 rfl rfl ?_
  refine x_iald d_Model_stands_41 e_firstToken_a0 i_41 ?_
  refine x_iload d_Model_stands_42 rfl ?_
  refine x_iadd d_Model_stands_44 ?_
  refine x_aload_n d_Model_stands_45 rfl rfl ?_
  refine x_get d_Model_stands_46 f_Model_77 e_a0 g_a0_starred ?_
  refine x_iload_n d_Model_stands_49 rfl rfl ?_
  refine x_iald d_Model_stands_50 e_starred_a0 i_50 ?_
  refine x_iconst (v := 1) d_Model_stands_51 (by decide) ?_
  refine x_icmp_ne (tgt := 67) d_Model_stands_52 (by decide) (fun hc => ?_) (fun hc => ?_)
  · exact kt hc
  · exact kf hc
theorem s_Model_stands_55 {G : xw_G} {F L bc bs : Nat} {pr : Option Value → xw_A → Prop} {px : String → xw_A → Prop} {h : xw_A} {a0 : Nat} {x1 : Int32} {x2 : Int32} {x3 : Int32} {x4 : Int32} {y0 : Int32} {y1 : Int32}  (kt : ¬ x4 = (x3 - 1) → xw G m_Model_stands F L bc bs pr px 67 [some (.ref a0), some (.int x1), some (.int x2), some (.int x3), some (.int x4), none] [.int y0, .int y1, .ref a0] h) (kf : x4 = (x3 - 1) → xw G m_Model_stands F L bc bs pr px 63 [some (.ref a0), some (.int x1), some (.int x2), some (.int x3), some (.int x4), none] [.int y0, .int y1, .ref a0] h) : xw G m_Model_stands F L bc bs pr px 55 [some (.ref a0), some (.int x1), some (.int x2), some (.int x3), some (.int x4), none] [.int y0, .int y1, .ref a0] h := by
  refine x_iload d_Model_stands_55 rfl ?_
  refine x_iload_n d_Model_stands_57 rfl rfl ?_
  refine x_iconst (v := 1) d_Model_stands_58 (by decide) ?_
  refine x_isub d_Model_stands_59 ?_
  refine x_icmp_ne (tgt := 67) d_Model_stands_60 (by decide) (fun hc => ?_) (fun hc => ?_)
  · exact kt hc
  · exact kf hc
theorem s_Model_stands_63 {G : xw_G} {F L bc bs : Nat} {pr : Option Value → xw_A → Prop} {px : String → xw_A → Prop} {h : xw_A} {a0 : Nat} {x1 : Int32} {x2 : Int32} {x3 : Int32} {x4 : Int32} {y0 : Int32} {y1 : Int32}  (k : xw G m_Model_stands F L bc bs pr px 68 [some (.ref a0), some (.int x1), some (.int x2), some (.int x3), some (.int x4), none] [.int 1, .int y0, .int y1, .ref a0] h) : xw G m_Model_stands F L bc bs pr px 63 [some (.ref a0), some (.int x1), some (.int x2), some (.int x3), some (.int x4), none] [.int y0, .int y1, .ref a0] h := by
  refine x_iconst (v := 1) d_Model_stands_63 (by decide) ?_
  refine x_goto (tgt := 68) d_Model_stands_64 (by decide) ?_
  exact k
theorem s_Model_stands_67 {G : xw_G} {F L bc bs : Nat} {pr : Option Value → xw_A → Prop} {px : String → xw_A → Prop} {h : xw_A} {a0 : Nat} {x1 : Int32} {x2 : Int32} {x3 : Int32} {x4 : Int32} {y0 : Int32} {y1 : Int32}  (k : xw G m_Model_stands F L bc bs pr px 68 [some (.ref a0), some (.int x1), some (.int x2), some (.int x3), some (.int x4), none] [.int 0, .int y0, .int y1, .ref a0] h) : xw G m_Model_stands F L bc bs pr px 67 [some (.ref a0), some (.int x1), some (.int x2), some (.int x3), some (.int x4), none] [.int y0, .int y1, .ref a0] h := by
  refine x_iconst (v := 0) d_Model_stands_67 (by decide) ?_
  exact k
theorem s_Model_stands_71 {G : xw_G} {F L bc bs : Nat} {pr : Option Value → xw_A → Prop} {px : String → xw_A → Prop} {h : xw_A} {a0 : Nat} {x1 : Int32} {x2 : Int32} {x3 : Int32} {x4 : Int32} {y0 : Int32}  (kt : ¬ y0 = 0 → xw G m_Model_stands F L bc bs pr px 80 [some (.ref a0), some (.int x1), some (.int x2), some (.int x3), some (.int x4), none] [] h) (kf : y0 = 0 → xw G m_Model_stands F L bc bs pr px 78 [none, none, none, none, none, none] [] h) : xw G m_Model_stands F L bc bs pr px 71 [some (.ref a0), some (.int x1), some (.int x2), some (.int x3), some (.int x4), none] [.int y0] h := by
  refine x_istore d_Model_stands_71 (by decide) rfl ?_
  show xw G m_Model_stands F L bc bs pr px 73 [some (.ref a0), some (.int x1), some (.int x2), some (.int x3), some (.int x4), some (.int y0)] [] h
  refine x_iload d_Model_stands_73 rfl ?_
  refine x_if_ne (tgt := 80) d_Model_stands_75 (by decide) (fun hc => ?_) (fun hc => ?_)
  · exact x_le (lv' := [some (.ref a0), some (.int x1), some (.int x2), some (.int x3), some (.int x4), none]) (xw_le_s (xw_le_s (xw_le_s (xw_le_s (xw_le_s (xw_le_n xw_le_e)))))) (kt hc)
  · exact x_le (lv' := [none, none, none, none, none, none]) (xw_le_n (xw_le_n (xw_le_n (xw_le_n (xw_le_n (xw_le_n xw_le_e)))))) (kf hc)
theorem s_Model_stands_78 {G : xw_G} {F L bc bs : Nat} {pr : Option Value → xw_A → Prop} {px : String → xw_A → Prop} {h : xw_A}   (kr : pr (some (.int 0)) h) : xw G m_Model_stands F L bc bs pr px 78 [none, none, none, none, none, none] [] h := by
  refine x_iconst (v := 0) d_Model_stands_78 (by decide) ?_
  exact x_zret d_Model_stands_79 rfl rfl kr
theorem s_Model_stands_80 {G : xw_G} {F L bc bs : Nat} {pr : Option Value → xw_A → Prop} {px : String → xw_A → Prop} {h : xw_A} {a0 : Nat} {x1 : Int32} {x2 : Int32} {x3 : Int32} {x4 : Int32}  (k : xw G m_Model_stands F L bc bs pr px 25 [some (.ref a0), some (.int x1), some (.int x2), some (.int x3), some (.int (x4 + 1)), none] [] h) : xw G m_Model_stands F L bc bs pr px 80 [some (.ref a0), some (.int x1), some (.int x2), some (.int x3), some (.int x4), none] [] h := by
  refine x_iinc (v := x4 + 1) d_Model_stands_80 rfl (by rfl) (by decide) rfl ?_
  show xw G m_Model_stands F L bc bs pr px 83 [some (.ref a0), some (.int x1), some (.int x2), some (.int x3), some (.int (x4 + 1)), none] [] h
  refine x_goto (tgt := 25) d_Model_stands_83 (by decide) ?_
  exact k
theorem s_Model_stands_86 {G : xw_G} {F L bc bs : Nat} {pr : Option Value → xw_A → Prop} {px : String → xw_A → Prop} {h : xw_A}   (kr : pr (some (.int 1)) h) : xw G m_Model_stands F L bc bs pr px 86 [none, none, none, none, none, none] [] h := by
  refine x_iconst (v := 1) d_Model_stands_86 (by decide) ?_
  exact x_zret d_Model_stands_87 rfl rfl kr
theorem s_Model_length_0 {G : xw_G} {F L bc bs : Nat} {pr : Option Value → xw_A → Prop} {px : String → xw_A → Prop} {h : xw_A} {a0 : Nat} {x1 : Int32} {fs_a0 : List Value} {firstToken_a0 : Nat} {n_firstToken_a0 : Nat} {f_firstToken_a0 : Nat → Int32} (l_a0 : fs_a0.length = 62) (e_a0 : h a0 = some (.inr (11, fs_a0))) (g_a0_firstToken : fs_a0[(41 : Nat)]? = some (.ref firstToken_a0)) (e_firstToken_a0 : h firstToken_a0 = some (.inl (0, n_firstToken_a0, .inl f_firstToken_a0))) (i_7 : vp_in (x1 + 1) n_firstToken_a0) (i_13 : vp_in x1 n_firstToken_a0) (kr : pr (some (.int ((f_firstToken_a0 (x1 + 1).toNatClampNeg) - (f_firstToken_a0 x1.toNatClampNeg)))) h) : xw G m_Model_length F L bc bs pr px 0 [some (.ref a0), some (.int x1)] [] h := by
  refine x_aload_n d_Model_length_0 rfl rfl ?_
  refine x_get d_Model_length_1 f_Model_74 e_a0 g_a0_firstToken ?_
  refine x_iload_n d_Model_length_4 rfl rfl ?_
  refine x_iconst (v := 1) d_Model_length_5 (by decide) ?_
  refine x_iadd d_Model_length_6 ?_
  refine x_iald d_Model_length_7 e_firstToken_a0 i_7 ?_
  refine x_aload_n d_Model_length_8 rfl rfl ?_
  refine x_get d_Model_length_9 f_Model_74 e_a0 g_a0_firstToken ?_
  refine x_iload_n d_Model_length_12 rfl rfl ?_
  refine x_iald d_Model_length_13 e_firstToken_a0 i_13 ?_
  refine x_isub d_Model_length_14 ?_
  exact x_iret d_Model_length_15 rfl kr
theorem s_Model_matches_0 {G : xw_G} {F L bc bs : Nat} {pr : Option Value → xw_A → Prop} {px : String → xw_A → Prop} {h : xw_A} {a0 : Nat} {x1 : Int32} {x2 : Int32} {x3 : Int32} {fs_a0 : List Value} {lasts_a0 : Nat} {n_lasts_a0 : Nat} {f_lasts_a0 : Nat → Int32} {begins_a0 : Nat} {n_begins_a0 : Nat} {f_begins_a0 : Nat → Int32} (l_a0 : fs_a0.length = 62) (e_a0 : h a0 = some (.inr (11, fs_a0))) (g_a0_lasts : fs_a0[(54 : Nat)]? = some (.ref lasts_a0)) (e_lasts_a0 : h lasts_a0 = some (.inl (0, n_lasts_a0, .inl f_lasts_a0))) (i_5 : vp_in x1 n_lasts_a0) (g_a0_begins : fs_a0[(53 : Nat)]? = some (.ref begins_a0)) (e_begins_a0 : h begins_a0 = some (.inl (0, n_begins_a0, .inl f_begins_a0))) (i_11 : vp_in x1 n_begins_a0) (kt : x3 = 0 → xw G m_Model_matches F L bc bs pr px 33 [some (.ref a0), some (.int x1), some (.int x2), none, some (.int ((f_lasts_a0 x1.toNatClampNeg) - (f_begins_a0 x1.toNatClampNeg))), none] [] h) (kf : ¬ x3 = 0 → xw G m_Model_matches F L bc bs pr px 19 [some (.ref a0), some (.int x1), some (.int x2), none, some (.int ((f_lasts_a0 x1.toNatClampNeg) - (f_begins_a0 x1.toNatClampNeg))), none] [] h) : xw G m_Model_matches F L bc bs pr px 0 [some (.ref a0), some (.int x1), some (.int x2), some (.int x3), none, none] [] h := by
  refine x_aload_n d_Model_matches_0 rfl rfl ?_
  refine x_get d_Model_matches_1 f_Model_113 e_a0 g_a0_lasts ?_
  refine x_iload_n d_Model_matches_4 rfl rfl ?_
  refine x_iald d_Model_matches_5 e_lasts_a0 i_5 ?_
  refine x_aload_n d_Model_matches_6 rfl rfl ?_
  refine x_get d_Model_matches_7 f_Model_110 e_a0 g_a0_begins ?_
  refine x_iload_n d_Model_matches_10 rfl rfl ?_
  refine x_iald d_Model_matches_11 e_begins_a0 i_11 ?_
  refine x_isub d_Model_matches_12 ?_
  refine x_istore d_Model_matches_13 (by decide) rfl ?_
  show xw G m_Model_matches F L bc bs pr px 15 [some (.ref a0), some (.int x1), some (.int x2), some (.int x3), some (.int ((f_lasts_a0 x1.toNatClampNeg) - (f_begins_a0 x1.toNatClampNeg))), none] [] h
  refine x_iload_n d_Model_matches_15 rfl rfl ?_
  refine x_if_eq (tgt := 33) d_Model_matches_16 (by decide) (fun hc => ?_) (fun hc => ?_)
  · exact x_le (lv' := [some (.ref a0), some (.int x1), some (.int x2), none, some (.int ((f_lasts_a0 x1.toNatClampNeg) - (f_begins_a0 x1.toNatClampNeg))), none]) (xw_le_s (xw_le_s (xw_le_s (xw_le_n (xw_le_s (xw_le_n xw_le_e)))))) (kt hc)
  · exact x_le (lv' := [some (.ref a0), some (.int x1), some (.int x2), none, some (.int ((f_lasts_a0 x1.toNatClampNeg) - (f_begins_a0 x1.toNatClampNeg))), none]) (xw_le_s (xw_le_s (xw_le_s (xw_le_n (xw_le_s (xw_le_n xw_le_e)))))) (kf hc)
theorem s_Model_matches_19 {G : xw_G} {F L bc bs : Nat} {pr : Option Value → xw_A → Prop} {px : String → xw_A → Prop} {h : xw_A} {a0 : Nat} {x1 : Int32} {x2 : Int32} {x4 : Int32} {fs_a0 : List Value} {tokenSize_a0 : Nat} {n_tokenSize_a0 : Nat} {f_tokenSize_a0 : Nat → Int32} (l_a0 : fs_a0.length = 62) (e_a0 : h a0 = some (.inr (11, fs_a0))) (g_a0_tokenSize : fs_a0[(44 : Nat)]? = some (.ref tokenSize_a0)) (e_tokenSize_a0 : h tokenSize_a0 = some (.inl (0, n_tokenSize_a0, .inl f_tokenSize_a0))) (i_24 : vp_in x2 n_tokenSize_a0) (kt : (f_tokenSize_a0 x2.toNatClampNeg) ≤ x4 → xw G m_Model_matches F L bc bs pr px 46 [some (.ref a0), some (.int x1), some (.int x2), none, none, none] [] h) (kf : ¬ (f_tokenSize_a0 x2.toNatClampNeg) ≤ x4 → xw G m_Model_matches F L bc bs pr px 30 [none, none, none, none, none, none] [] h) : xw G m_Model_matches F L bc bs pr px 19 [some (.ref a0), some (.int x1), some (.int x2), none, some (.int x4), none] [] h := by
  refine x_aload_n d_Model_matches_19 rfl rfl ?_
  refine x_get d_Model_matches_20 f_Model_83 e_a0 g_a0_tokenSize ?_
  refine x_iload_n d_Model_matches_23 rfl rfl ?_
  refine x_iald d_Model_matches_24 e_tokenSize_a0 i_24 ?_
  refine x_iload d_Model_matches_25 rfl ?_
  refine x_icmp_le (tgt := 46) d_Model_matches_27 (by decide) (fun hc => ?_) (fun hc => ?_)
  · exact x_le (lv' := [some (.ref a0), some (.int x1), some (.int x2), none, none, none]) (xw_le_s (xw_le_s (xw_le_s (xw_le_n (xw_le_n (xw_le_n xw_le_e)))))) (kt hc)
  · exact x_le (lv' := [none, none, none, none, none, none]) (xw_le_n (xw_le_n (xw_le_n (xw_le_n (xw_le_n (xw_le_n xw_le_e)))))) (kf hc)
theorem s_Model_matches_30 {G : xw_G} {F L bc bs : Nat} {pr : Option Value → xw_A → Prop} {px : String → xw_A → Prop} {h : xw_A}   (k : xw G m_Model_matches F L bc bs pr px 44 [none, none, none, none, none, none] [] h) : xw G m_Model_matches F L bc bs pr px 30 [none, none, none, none, none, none] [] h := by
  refine x_goto (tgt := 44) d_Model_matches_30 (by decide) ?_
  exact k
theorem s_Model_matches_33 {G : xw_G} {F L bc bs : Nat} {pr : Option Value → xw_A → Prop} {px : String → xw_A → Prop} {h : xw_A} {a0 : Nat} {x1 : Int32} {x2 : Int32} {x4 : Int32} {fs_a0 : List Value} {tokenSize_a0 : Nat} {n_tokenSize_a0 : Nat} {f_tokenSize_a0 : Nat → Int32} (l_a0 : fs_a0.length = 62) (e_a0 : h a0 = some (.inr (11, fs_a0))) (g_a0_tokenSize : fs_a0[(44 : Nat)]? = some (.ref tokenSize_a0)) (e_tokenSize_a0 : h tokenSize_a0 = some (.inl (0, n_tokenSize_a0, .inl f_tokenSize_a0))) (i_38 : vp_in x2 n_tokenSize_a0) (kt : (f_tokenSize_a0 x2.toNatClampNeg) = x4 → xw G m_Model_matches F L bc bs pr px 46 [some (.ref a0), some (.int x1), some (.int x2), none, none, none] [] h) (kf : ¬ (f_tokenSize_a0 x2.toNatClampNeg) = x4 → xw G m_Model_matches F L bc bs pr px 44 [none, none, none, none, none, none] [] h) : xw G m_Model_matches F L bc bs pr px 33 [some (.ref a0), some (.int x1), some (.int x2), none, some (.int x4), none] [] h := by
  refine x_aload_n d_Model_matches_33 rfl rfl ?_
  refine x_get d_Model_matches_34 f_Model_83 e_a0 g_a0_tokenSize ?_
  refine x_iload_n d_Model_matches_37 rfl rfl ?_
  refine x_iald d_Model_matches_38 e_tokenSize_a0 i_38 ?_
  refine x_iload d_Model_matches_39 rfl ?_
  refine x_icmp_eq (tgt := 46) d_Model_matches_41 (by decide) (fun hc => ?_) (fun hc => ?_)
  · exact x_le (lv' := [some (.ref a0), some (.int x1), some (.int x2), none, none, none]) (xw_le_s (xw_le_s (xw_le_s (xw_le_n (xw_le_n (xw_le_n xw_le_e)))))) (kt hc)
  · exact x_le (lv' := [none, none, none, none, none, none]) (xw_le_n (xw_le_n (xw_le_n (xw_le_n (xw_le_n (xw_le_n xw_le_e)))))) (kf hc)
theorem s_Model_matches_44 {G : xw_G} {F L bc bs : Nat} {pr : Option Value → xw_A → Prop} {px : String → xw_A → Prop} {h : xw_A}   (kr : pr (some (.int 0)) h) : xw G m_Model_matches F L bc bs pr px 44 [none, none, none, none, none, none] [] h := by
  refine x_iconst (v := 0) d_Model_matches_44 (by decide) ?_
  exact x_zret d_Model_matches_45 rfl rfl kr
theorem s_Model_matches_46 {G : xw_G} {F L bc bs : Nat} {pr : Option Value → xw_A → Prop} {px : String → xw_A → Prop} {h : xw_A} {a0 : Nat} {x1 : Int32} {x2 : Int32}  (k : xw G m_Model_matches F L bc bs pr px 49 [some (.ref a0), some (.int x1), some (.int x2), none, none, some (.int 0)] [] h) : xw G m_Model_matches F L bc bs pr px 46 [some (.ref a0), some (.int x1), some (.int x2), none, none, none] [] h := by
  refine x_iconst (v := 0) d_Model_matches_46 (by decide) ?_
  refine x_istore d_Model_matches_47 (by decide) trivial ?_
  show xw G m_Model_matches F L bc bs pr px 49 [some (.ref a0), some (.int x1), some (.int x2), none, none, some (.int 0)] [] h
  exact k
theorem s_Model_matches_49 {G : xw_G} {F L bc bs : Nat} {pr : Option Value → xw_A → Prop} {px : String → xw_A → Prop} {h : xw_A} {a0 : Nat} {x1 : Int32} {x2 : Int32} {x5 : Int32} {fs_a0 : List Value} {tokenSize_a0 : Nat} {n_tokenSize_a0 : Nat} {f_tokenSize_a0 : Nat → Int32} (l_a0 : fs_a0.length = 62) (e_a0 : h a0 = some (.inr (11, fs_a0))) (g_a0_tokenSize : fs_a0[(44 : Nat)]? = some (.ref tokenSize_a0)) (e_tokenSize_a0 : h tokenSize_a0 = some (.inl (0, n_tokenSize_a0, .inl f_tokenSize_a0))) (i_56 : vp_in x2 n_tokenSize_a0) (kt : (f_tokenSize_a0 x2.toNatClampNeg) ≤ x5 → xw G m_Model_matches F L bc bs pr px 105 [none, none, none, none, none, none] [] h) (kf : ¬ (f_tokenSize_a0 x2.toNatClampNeg) ≤ x5 → xw G m_Model_matches F L bc bs pr px 60 [some (.ref a0), some (.int x1), some (.int x2), none, none, some (.int x5)] [] h) : xw G m_Model_matches F L bc bs pr px 49 [some (.ref a0), some (.int x1), some (.int x2), none, none, some (.int x5)] [] h := by
  refine x_iload d_Model_matches_49 rfl ?_
  refine x_aload_n d_Model_matches_51 rfl rfl ?_
  refine x_get d_Model_matches_52 f_Model_83 e_a0 g_a0_tokenSize ?_
  refine x_iload_n d_Model_matches_55 rfl rfl ?_
  refine x_iald d_Model_matches_56 e_tokenSize_a0 i_56 ?_
  refine x_icmp_ge (tgt := 105) d_Model_matches_57 (by decide) (fun hc => ?_) (fun hc => ?_)
  · exact x_le (lv' := [none, none, none, none, none, none]) (xw_le_n (xw_le_n (xw_le_n (xw_le_n (xw_le_n (xw_le_n xw_le_e)))))) (kt hc)
  · exact kf hc
theorem s_Model_matches_60 {G : xw_G} {F L bc bs : Nat} {pr : Option Value → xw_A → Prop} {px : String → xw_A → Prop} {h : xw_A} {a0 : Nat} {x1 : Int32} {x2 : Int32} {x5 : Int32} {fs_a0 : List Value} {texts_a0 : Nat} {begins_a0 : Nat} {n_begins_a0 : Nat} {f_begins_a0 : Nat → Int32} {n_texts_a0 : Nat} {f_texts_a0 : Nat → Int32} (l_a0 : fs_a0.length = 62) (e_a0 : h a0 = some (.inr (11, fs_a0))) (g_a0_texts : fs_a0[(7 : Nat)]? = some (.ref texts_a0)) (g_a0_begins : fs_a0[(53 : Nat)]? = some (.ref begins_a0)) (e_begins_a0 : h begins_a0 = some (.inl (0, n_begins_a0, .inl f_begins_a0))) (i_69 : vp_in x1 n_begins_a0) (e_texts_a0 : h texts_a0 = some (.inl (0, n_texts_a0, .inl f_texts_a0))) (i_73 : vp_in ((f_begins_a0 x1.toNatClampNeg) + x5) n_texts_a0) (k : xw G m_Model_matches F L bc bs pr px 74 [some (.ref a0), some (.int x1), some (.int x2), none, none, some (.int x5)] [.int (f_texts_a0 ((f_begins_a0 x1.toNatClampNeg) + x5).toNatClampNeg)] h) : xw G m_Model_matches F L bc bs pr px 60 [some (.ref a0), some (.int x1), some (.int x2), none, none, some (.int x5)] [] h := by
  refine x_aload_n d_Model_matches_60 rfl rfl ?_
  refine x_get d_Model_matches_61 f_Model_29 e_a0 g_a0_texts ?_
  refine x_aload_n d_Model_matches_64 rfl rfl ?_
  refine x_get d_Model_matches_65 f_Model_110 e_a0 g_a0_begins ?_
  refine x_iload_n d_Model_matches_68 rfl rfl ?_
  refine x_iald d_Model_matches_69 e_begins_a0 i_69 ?_
  refine x_iload d_Model_matches_70 rfl ?_
  refine x_iadd d_Model_matches_72 ?_
  refine x_iald d_Model_matches_73 e_texts_a0 i_73 ?_
  exact k
theorem s_Model_matches_77 {G : xw_G} {F L bc bs : Nat} {pr : Option Value → xw_A → Prop} {px : String → xw_A → Prop} {h : xw_A} {a0 : Nat} {x1 : Int32} {x2 : Int32} {x5 : Int32} {y0 : Int32} {fs_a0 : List Value} {asked_a0 : Nat} {tokenAt_a0 : Nat} {n_tokenAt_a0 : Nat} {f_tokenAt_a0 : Nat → Int32} {n_asked_a0 : Nat} {f_asked_a0 : Nat → Int32} (l_a0 : fs_a0.length = 62) (e_a0 : h a0 = some (.inr (11, fs_a0))) (g_a0_asked : fs_a0[(4 : Nat)]? = some (.ref asked_a0)) (g_a0_tokenAt : fs_a0[(43 : Nat)]? = some (.ref tokenAt_a0)) (e_tokenAt_a0 : h tokenAt_a0 = some (.inl (0, n_tokenAt_a0, .inl f_tokenAt_a0))) (i_86 : vp_in x2 n_tokenAt_a0) (e_asked_a0 : h asked_a0 = some (.inl (0, n_asked_a0, .inl f_asked_a0))) (i_90 : vp_in ((f_tokenAt_a0 x2.toNatClampNeg) + x5) n_asked_a0) (k : xw G m_Model_matches F L bc bs pr px 91 [some (.ref a0), some (.int x1), some (.int x2), none, none, some (.int x5)] [.int (f_asked_a0 ((f_tokenAt_a0 x2.toNatClampNeg) + x5).toNatClampNeg), .int y0] h) : xw G m_Model_matches F L bc bs pr px 77 [some (.ref a0), some (.int x1), some (.int x2), none, none, some (.int x5)] [.int y0] h := by
  refine x_aload_n d_Model_matches_77 rfl rfl ?_
  refine x_get d_Model_matches_78 f_Model_20 e_a0 g_a0_asked ?_
  refine x_aload_n d_Model_matches_81 rfl rfl ?_
  refine x_get d_Model_matches_82 f_Model_80 e_a0 g_a0_tokenAt ?_
  refine x_iload_n d_Model_matches_85 rfl rfl ?_
  refine x_iald d_Model_matches_86 e_tokenAt_a0 i_86 ?_
  refine x_iload d_Model_matches_87 rfl ?_
  refine x_iadd d_Model_matches_89 ?_
  refine x_iald d_Model_matches_90 e_asked_a0 i_90 ?_
  exact k
theorem s_Model_matches_94 {G : xw_G} {F L bc bs : Nat} {pr : Option Value → xw_A → Prop} {px : String → xw_A → Prop} {h : xw_A} {a0 : Nat} {x1 : Int32} {x2 : Int32} {x5 : Int32} {y0 : Int32} {y1 : Int32}  (kt : y1 = y0 → xw G m_Model_matches F L bc bs pr px 99 [some (.ref a0), some (.int x1), some (.int x2), none, none, some (.int x5)] [] h) (kf : ¬ y1 = y0 → xw G m_Model_matches F L bc bs pr px 97 [none, none, none, none, none, none] [] h) : xw G m_Model_matches F L bc bs pr px 94 [some (.ref a0), some (.int x1), some (.int x2), none, none, some (.int x5)] [.int y0, .int y1] h := by
  refine x_icmp_eq (tgt := 99) d_Model_matches_94 (by decide) (fun hc => ?_) (fun hc => ?_)
  · exact kt hc
  · exact x_le (lv' := [none, none, none, none, none, none]) (xw_le_n (xw_le_n (xw_le_n (xw_le_n (xw_le_n (xw_le_n xw_le_e)))))) (kf hc)
theorem s_Model_matches_97 {G : xw_G} {F L bc bs : Nat} {pr : Option Value → xw_A → Prop} {px : String → xw_A → Prop} {h : xw_A}   (kr : pr (some (.int 0)) h) : xw G m_Model_matches F L bc bs pr px 97 [none, none, none, none, none, none] [] h := by
  refine x_iconst (v := 0) d_Model_matches_97 (by decide) ?_
  exact x_zret d_Model_matches_98 rfl rfl kr
theorem s_Model_matches_99 {G : xw_G} {F L bc bs : Nat} {pr : Option Value → xw_A → Prop} {px : String → xw_A → Prop} {h : xw_A} {a0 : Nat} {x1 : Int32} {x2 : Int32} {x5 : Int32}  (k : xw G m_Model_matches F L bc bs pr px 49 [some (.ref a0), some (.int x1), some (.int x2), none, none, some (.int (x5 + 1))] [] h) : xw G m_Model_matches F L bc bs pr px 99 [some (.ref a0), some (.int x1), some (.int x2), none, none, some (.int x5)] [] h := by
  refine x_iinc (v := x5 + 1) d_Model_matches_99 rfl (by rfl) (by decide) trivial ?_
  show xw G m_Model_matches F L bc bs pr px 102 [some (.ref a0), some (.int x1), some (.int x2), none, none, some (.int (x5 + 1))] [] h
  refine x_goto (tgt := 49) d_Model_matches_102 (by decide) ?_
  exact k
theorem s_Model_matches_105 {G : xw_G} {F L bc bs : Nat} {pr : Option Value → xw_A → Prop} {px : String → xw_A → Prop} {h : xw_A}   (kr : pr (some (.int 1)) h) : xw G m_Model_matches F L bc bs pr px 105 [none, none, none, none, none, none] [] h := by
  refine x_iconst (v := 1) d_Model_matches_105 (by decide) ?_
  exact x_zret d_Model_matches_106 rfl rfl kr
theorem s_Model_standsBetween_0 {G : xw_G} {F L bc bs : Nat} {pr : Option Value → xw_A → Prop} {px : String → xw_A → Prop} {h : xw_A} {a0 : Nat} {x1 : Int32} {x2 : Int32} {x3 : Int32}  (k : xw G m_Model_standsBetween F L bc bs pr px 3 [some (.ref a0), some (.int x1), some (.int x2), some (.int x3), some (.int 0)] [] h) : xw G m_Model_standsBetween F L bc bs pr px 0 [some (.ref a0), some (.int x1), some (.int x2), some (.int x3), none] [] h := by
  refine x_iconst (v := 0) d_Model_standsBetween_0 (by decide) ?_
  refine x_istore d_Model_standsBetween_1 (by decide) rfl ?_
  show xw G m_Model_standsBetween F L bc bs pr px 3 [some (.ref a0), some (.int x1), some (.int x2), some (.int x3), some (.int 0)] [] h
  exact k
theorem s_Model_standsBetween_3 {G : xw_G} {F L bc bs : Nat} {pr : Option Value → xw_A → Prop} {px : String → xw_A → Prop} {h : xw_A} {a0 : Nat} {x1 : Int32} {x2 : Int32} {x3 : Int32} {x4 : Int32} {fs_a0 : List Value} {column_a0 : Int32} (l_a0 : fs_a0.length = 62) (e_a0 : h a0 = some (.inr (11, fs_a0))) (g_a0_column : fs_a0[(55 : Nat)]? = some (.int column_a0)) (kt : column_a0 ≤ x4 → xw G m_Model_standsBetween F L bc bs pr px 48 [none, none, none, none, none] [] h) (kf : ¬ column_a0 ≤ x4 → xw G m_Model_standsBetween F L bc bs pr px 12 [some (.ref a0), some (.int x1), some (.int x2), some (.int x3), some (.int x4)] [] h) : xw G m_Model_standsBetween F L bc bs pr px 3 [some (.ref a0), some (.int x1), some (.int x2), some (.int x3), some (.int x4)] [] h := by
  refine x_iload d_Model_standsBetween_3 rfl ?_
  refine x_aload_n d_Model_standsBetween_5 rfl rfl ?_
  refine x_get d_Model_standsBetween_6 f_Model_150 e_a0 g_a0_column ?_
  refine x_icmp_ge (tgt := 48) d_Model_standsBetween_9 (by decide) (fun hc => ?_) (fun hc => ?_)
  · exact x_le (lv' := [none, none, none, none, none]) (xw_le_n (xw_le_n (xw_le_n (xw_le_n (xw_le_n xw_le_e))))) (kt hc)
  · exact kf hc
theorem s_Model_standsBetween_12 {G : xw_G} {F L bc bs : Nat} {pr : Option Value → xw_A → Prop} {px : String → xw_A → Prop} {h : xw_A} {a0 : Nat} {x1 : Int32} {x2 : Int32} {x3 : Int32} {x4 : Int32}  (kt : x3 < x4 → xw G m_Model_standsBetween F L bc bs pr px 48 [none, none, none, none, none] [] h) (kf : ¬ x3 < x4 → xw G m_Model_standsBetween F L bc bs pr px 18 [some (.ref a0), some (.int x1), some (.int x2), some (.int x3), some (.int x4)] [] h) : xw G m_Model_standsBetween F L bc bs pr px 12 [some (.ref a0), some (.int x1), some (.int x2), some (.int x3), some (.int x4)] [] h := by
  refine x_iload d_Model_standsBetween_12 rfl ?_
  refine x_iload_n d_Model_standsBetween_14 rfl rfl ?_
  refine x_icmp_gt (tgt := 48) d_Model_standsBetween_15 (by decide) (fun hc => ?_) (fun hc => ?_)
  · exact x_le (lv' := [none, none, none, none, none]) (xw_le_n (xw_le_n (xw_le_n (xw_le_n (xw_le_n xw_le_e))))) (kt hc)
  · exact kf hc
theorem s_Model_standsBetween_18 {G : xw_G} {F L bc bs : Nat} {pr : Option Value → xw_A → Prop} {px : String → xw_A → Prop} {h : xw_A} {a0 : Nat} {x1 : Int32} {x2 : Int32} {x3 : Int32} {x4 : Int32}  (k : xw G m_Model_standsBetween F L bc bs pr px 22 [some (.ref a0), some (.int x1), some (.int x2), some (.int x3), some (.int x4)] [.int x1, .ref a0, .int x4] h) : xw G m_Model_standsBetween F L bc bs pr px 18 [some (.ref a0), some (.int x1), some (.int x2), some (.int x3), some (.int x4)] [] h := by
  refine x_iload d_Model_standsBetween_18 rfl ?_
  refine x_aload_n d_Model_standsBetween_20 rfl rfl ?_
  refine x_iload_n d_Model_standsBetween_21 rfl rfl ?_
  exact k
theorem s_Model_standsBetween_25 {G : xw_G} {F L bc bs : Nat} {pr : Option Value → xw_A → Prop} {px : String → xw_A → Prop} {h : xw_A} {a0 : Nat} {x1 : Int32} {x2 : Int32} {x3 : Int32} {x4 : Int32} {y0 : Int32}  (kt : (x4 + y0) < x2 → xw G m_Model_standsBetween F L bc bs pr px 42 [some (.ref a0), some (.int x1), some (.int x2), some (.int x3), some (.int x4)] [] h) (kf : ¬ (x4 + y0) < x2 → xw G m_Model_standsBetween F L bc bs pr px 30 [some (.ref a0), some (.int x1), some (.int x2), some (.int x3), some (.int x4)] [] h) : xw G m_Model_standsBetween F L bc bs pr px 25 [some (.ref a0), some (.int x1), some (.int x2), some (.int x3), some (.int x4)] [.int y0, .int x4] h := by
  refine x_iadd d_Model_standsBetween_25 ?_
  refine x_iload_n d_Model_standsBetween_26 rfl rfl ?_
  refine x_icmp_lt (tgt := 42) d_Model_standsBetween_27 (by decide) (fun hc => ?_) (fun hc => ?_)
  · exact kt hc
  · exact kf hc
theorem s_Model_standsBetween_30 {G : xw_G} {F L bc bs : Nat} {pr : Option Value → xw_A → Prop} {px : String → xw_A → Prop} {h : xw_A} {a0 : Nat} {x1 : Int32} {x2 : Int32} {x3 : Int32} {x4 : Int32}  (k : xw G m_Model_standsBetween F L bc bs pr px 34 [some (.ref a0), some (.int x1), some (.int x2), some (.int x3), some (.int x4)] [.int x4, .int x1, .ref a0] h) : xw G m_Model_standsBetween F L bc bs pr px 30 [some (.ref a0), some (.int x1), some (.int x2), some (.int x3), some (.int x4)] [] h := by
  refine x_aload_n d_Model_standsBetween_30 rfl rfl ?_
  refine x_iload_n d_Model_standsBetween_31 rfl rfl ?_
  refine x_iload d_Model_standsBetween_32 rfl ?_
  exact k
theorem s_Model_standsBetween_37 {G : xw_G} {F L bc bs : Nat} {pr : Option Value → xw_A → Prop} {px : String → xw_A → Prop} {h : xw_A} {a0 : Nat} {x1 : Int32} {x2 : Int32} {x3 : Int32} {x4 : Int32} {y0 : Int32}  (kt : y0 = 0 → xw G m_Model_standsBetween F L bc bs pr px 42 [some (.ref a0), some (.int x1), some (.int x2), some (.int x3), some (.int x4)] [] h) (kf : ¬ y0 = 0 → xw G m_Model_standsBetween F L bc bs pr px 40 [none, none, none, none, none] [] h) : xw G m_Model_standsBetween F L bc bs pr px 37 [some (.ref a0), some (.int x1), some (.int x2), some (.int x3), some (.int x4)] [.int y0] h := by
  refine x_if_eq (tgt := 42) d_Model_standsBetween_37 (by decide) (fun hc => ?_) (fun hc => ?_)
  · exact kt hc
  · exact x_le (lv' := [none, none, none, none, none]) (xw_le_n (xw_le_n (xw_le_n (xw_le_n (xw_le_n xw_le_e))))) (kf hc)
theorem s_Model_standsBetween_40 {G : xw_G} {F L bc bs : Nat} {pr : Option Value → xw_A → Prop} {px : String → xw_A → Prop} {h : xw_A}   (kr : pr (some (.int 1)) h) : xw G m_Model_standsBetween F L bc bs pr px 40 [none, none, none, none, none] [] h := by
  refine x_iconst (v := 1) d_Model_standsBetween_40 (by decide) ?_
  exact x_zret d_Model_standsBetween_41 rfl rfl kr
theorem s_Model_standsBetween_42 {G : xw_G} {F L bc bs : Nat} {pr : Option Value → xw_A → Prop} {px : String → xw_A → Prop} {h : xw_A} {a0 : Nat} {x1 : Int32} {x2 : Int32} {x3 : Int32} {x4 : Int32}  (k : xw G m_Model_standsBetween F L bc bs pr px 3 [some (.ref a0), some (.int x1), some (.int x2), some (.int x3), some (.int (x4 + 1))] [] h) : xw G m_Model_standsBetween F L bc bs pr px 42 [some (.ref a0), some (.int x1), some (.int x2), some (.int x3), some (.int x4)] [] h := by
  refine x_iinc (v := x4 + 1) d_Model_standsBetween_42 rfl (by rfl) (by decide) rfl ?_
  show xw G m_Model_standsBetween F L bc bs pr px 45 [some (.ref a0), some (.int x1), some (.int x2), some (.int x3), some (.int (x4 + 1))] [] h
  refine x_goto (tgt := 3) d_Model_standsBetween_45 (by decide) ?_
  exact k
theorem s_Model_standsBetween_48 {G : xw_G} {F L bc bs : Nat} {pr : Option Value → xw_A → Prop} {px : String → xw_A → Prop} {h : xw_A}   (kr : pr (some (.int 0)) h) : xw G m_Model_standsBetween F L bc bs pr px 48 [none, none, none, none, none] [] h := by
  refine x_iconst (v := 0) d_Model_standsBetween_48 (by decide) ?_
  exact x_zret d_Model_standsBetween_49 rfl rfl kr
theorem s_Model_scoreOf_0 {G : xw_G} {F L bc bs : Nat} {pr : Option Value → xw_A → Prop} {px : String → xw_A → Prop} {h : xw_A} {a0 : Nat} {x1 : Int32}  (k : xw G m_Model_scoreOf F L bc bs pr px 6 [some (.ref a0), some (.int x1), some (.double FP.dconst0), none, some (.int 0), none, none, none, none, none, none, none, none, none, none, none] [.ref a0] h) : xw G m_Model_scoreOf F L bc bs pr px 0 [some (.ref a0), some (.int x1), none, none, none, none, none, none, none, none, none, none, none, none, none, none] [] h := by
  refine x_dconst0 d_Model_scoreOf_0 ?_
  refine x_dstore_n d_Model_scoreOf_1 rfl (by decide) rfl ?_
  show xw G m_Model_scoreOf F L bc bs pr px 2 [some (.ref a0), some (.int x1), some (.double FP.dconst0), none, none, none, none, none, none, none, none, none, none, none, none, none] [] h
  refine x_iconst (v := 0) d_Model_scoreOf_2 (by decide) ?_
  refine x_istore d_Model_scoreOf_3 (by decide) trivial ?_
  show xw G m_Model_scoreOf F L bc bs pr px 5 [some (.ref a0), some (.int x1), some (.double FP.dconst0), none, some (.int 0), none, none, none, none, none, none, none, none, none, none, none] [] h
  refine x_aload_n d_Model_scoreOf_5 rfl rfl ?_
  exact k
theorem s_Model_scoreOf_9 {G : xw_G} {F L bc bs : Nat} {pr : Option Value → xw_A → Prop} {px : String → xw_A → Prop} {h : xw_A} {a0 : Nat} {x1 : Int32} {x2 : UInt64} {x4 : Int32} {y0 : Int32}  (k : xw G m_Model_scoreOf F L bc bs pr px 14 [some (.ref a0), some (.int x1), some (.double x2), none, some (.int x4), some (.int y0), some (.int 0), none, none, none, none, none, none, none, none, none] [] h) : xw G m_Model_scoreOf F L bc bs pr px 9 [some (.ref a0), some (.int x1), some (.double x2), none, some (.int x4), none, none, none, none, none, none, none, none, none, none, none] [.int y0] h := by
  refine x_istore d_Model_scoreOf_9 (by decide) rfl ?_
  show xw G m_Model_scoreOf F L bc bs pr px 11 [some (.ref a0), some (.int x1), some (.double x2), none, some (.int x4), some (.int y0), none, none, none, none, none, none, none, none, none, none] [] h
  refine x_iconst (v := 0) d_Model_scoreOf_11 (by decide) ?_
  refine x_istore d_Model_scoreOf_12 (by decide) rfl ?_
  show xw G m_Model_scoreOf F L bc bs pr px 14 [some (.ref a0), some (.int x1), some (.double x2), none, some (.int x4), some (.int y0), some (.int 0), none, none, none, none, none, none, none, none, none] [] h
  exact k
theorem s_Model_scoreOf_14 {G : xw_G} {F L bc bs : Nat} {pr : Option Value → xw_A → Prop} {px : String → xw_A → Prop} {h : xw_A} {a0 : Nat} {x1 : Int32} {x2 : UInt64} {x4 : Int32} {x5 : Int32} {x6 : Int32}  (kt : 24 ≤ x6 → xw G m_Model_scoreOf F L bc bs pr px 48 [some (.ref a0), some (.int x1), some (.double x2), none, some (.int x4), some (.int x5), none, none, none, none, none, none, none, none, none, none] [] h) (kf : ¬ 24 ≤ x6 → xw G m_Model_scoreOf F L bc bs pr px 21 [some (.ref a0), some (.int x1), some (.double x2), none, some (.int x4), some (.int x5), some (.int x6), none, none, none, none, none, none, none, none, none] [] h) : xw G m_Model_scoreOf F L bc bs pr px 14 [some (.ref a0), some (.int x1), some (.double x2), none, some (.int x4), some (.int x5), some (.int x6), none, none, none, none, none, none, none, none, none] [] h := by
  refine x_iload d_Model_scoreOf_14 rfl ?_
  refine x_bipush (v := 24) d_Model_scoreOf_16 (by decide) ?_
  refine x_icmp_ge (tgt := 48) d_Model_scoreOf_18 (by decide) (fun hc => ?_) (fun hc => ?_)
  · exact x_le (lv' := [some (.ref a0), some (.int x1), some (.double x2), none, some (.int x4), some (.int x5), none, none, none, none, none, none, none, none, none, none]) (xw_le_s (xw_le_s (xw_le_s (xw_le_n (xw_le_s (xw_le_s (xw_le_n (xw_le_n (xw_le_n (xw_le_n (xw_le_n (xw_le_n (xw_le_n (xw_le_n (xw_le_n (xw_le_n xw_le_e)))))))))))))))) (kt hc)
  · exact kf hc
theorem s_Model_scoreOf_21 {G : xw_G} {F L bc bs : Nat} {pr : Option Value → xw_A → Prop} {px : String → xw_A → Prop} {h : xw_A} {a0 : Nat} {x1 : Int32} {x2 : UInt64} {x4 : Int32} {x5 : Int32} {x6 : Int32} {fs_a0 : List Value} {live_a0 : Nat} {n_live_a0 : Nat} {f_live_a0 : Nat → Int32} (l_a0 : fs_a0.length = 62) (e_a0 : h a0 = some (.inr (11, fs_a0))) (g_a0_live : fs_a0[(14 : Nat)]? = some (.ref live_a0)) (e_live_a0 : h live_a0 = some (.inl (0, n_live_a0, .inl f_live_a0))) (i_27 : vp_in x6 n_live_a0) (kt : (f_live_a0 x6.toNatClampNeg) < 0 → xw G m_Model_scoreOf F L bc bs pr px 42 [some (.ref a0), some (.int x1), some (.double x2), none, some (.int x4), some (.int x5), some (.int x6), none, none, none, none, none, none, none, none, none] [] h) (kf : ¬ (f_live_a0 x6.toNatClampNeg) < 0 → xw G m_Model_scoreOf F L bc bs pr px 31 [some (.ref a0), some (.int x1), some (.double x2), none, some (.int x4), some (.int x5), some (.int x6), none, none, none, none, none, none, none, none, none] [] h) : xw G m_Model_scoreOf F L bc bs pr px 21 [some (.ref a0), some (.int x1), some (.double x2), none, some (.int x4), some (.int x5), some (.int x6), none, none, none, none, none, none, none, none, none] [] h := by
  refine x_aload_n d_Model_scoreOf_21 rfl rfl ?_
  refine x_get d_Model_scoreOf_22 f_Model_44 e_a0 g_a0_live ?_
  refine x_iload d_Model_scoreOf_25 rfl ?_
  refine x_iald d_Model_scoreOf_27 e_live_a0 i_27 ?_
  refine x_if_lt (tgt := 42) d_Model_scoreOf_28 (by decide) (fun hc => ?_) (fun hc => ?_)
  · exact kt hc
  · exact kf hc
theorem s_Model_scoreOf_31 {G : xw_G} {F L bc bs : Nat} {pr : Option Value → xw_A → Prop} {px : String → xw_A → Prop} {h : xw_A} {a0 : Nat} {x1 : Int32} {x2 : UInt64} {x4 : Int32} {x5 : Int32} {x6 : Int32}  (k : xw G m_Model_scoreOf F L bc bs pr px 36 [some (.ref a0), some (.int x1), some (.double x2), none, some (.int x4), some (.int x5), some (.int x6), none, none, none, none, none, none, none, none, none] [.int x6, .ref a0, .int x4] h) : xw G m_Model_scoreOf F L bc bs pr px 31 [some (.ref a0), some (.int x1), some (.double x2), none, some (.int x4), some (.int x5), some (.int x6), none, none, none, none, none, none, none, none, none] [] h := by
  refine x_iload d_Model_scoreOf_31 rfl ?_
  refine x_aload_n d_Model_scoreOf_33 rfl rfl ?_
  refine x_iload d_Model_scoreOf_34 rfl ?_
  exact k
theorem s_Model_scoreOf_39 {G : xw_G} {F L bc bs : Nat} {pr : Option Value → xw_A → Prop} {px : String → xw_A → Prop} {h : xw_A} {a0 : Nat} {x1 : Int32} {x2 : UInt64} {x5 : Int32} {x6 : Int32} {y0 : Int32} {y1 : Int32}  (k : xw G m_Model_scoreOf F L bc bs pr px 42 [some (.ref a0), some (.int x1), some (.double x2), none, some (.int (y1 + y0)), some (.int x5), some (.int x6), none, none, none, none, none, none, none, none, none] [] h) : xw G m_Model_scoreOf F L bc bs pr px 39 [some (.ref a0), some (.int x1), some (.double x2), none, none, some (.int x5), some (.int x6), none, none, none, none, none, none, none, none, none] [.int y0, .int y1] h := by
  refine x_iadd d_Model_scoreOf_39 ?_
  refine x_istore d_Model_scoreOf_40 (by decide) trivial ?_
  show xw G m_Model_scoreOf F L bc bs pr px 42 [some (.ref a0), some (.int x1), some (.double x2), none, some (.int (y1 + y0)), some (.int x5), some (.int x6), none, none, none, none, none, none, none, none, none] [] h
  exact k
theorem s_Model_scoreOf_42 {G : xw_G} {F L bc bs : Nat} {pr : Option Value → xw_A → Prop} {px : String → xw_A → Prop} {h : xw_A} {a0 : Nat} {x1 : Int32} {x2 : UInt64} {x4 : Int32} {x5 : Int32} {x6 : Int32}  (k : xw G m_Model_scoreOf F L bc bs pr px 14 [some (.ref a0), some (.int x1), some (.double x2), none, some (.int x4), some (.int x5), some (.int (x6 + 1)), none, none, none, none, none, none, none, none, none] [] h) : xw G m_Model_scoreOf F L bc bs pr px 42 [some (.ref a0), some (.int x1), some (.double x2), none, some (.int x4), some (.int x5), some (.int x6), none, none, none, none, none, none, none, none, none] [] h := by
  refine x_iinc (v := x6 + 1) d_Model_scoreOf_42 rfl (by rfl) (by decide) rfl ?_
  show xw G m_Model_scoreOf F L bc bs pr px 45 [some (.ref a0), some (.int x1), some (.double x2), none, some (.int x4), some (.int x5), some (.int (x6 + 1)), none, none, none, none, none, none, none, none, none] [] h
  refine x_goto (tgt := 14) d_Model_scoreOf_45 (by decide) ?_
  exact k
theorem s_Model_scoreOf_48 {G : xw_G} {F L bc bs : Nat} {pr : Option Value → xw_A → Prop} {px : String → xw_A → Prop} {h : xw_A} {a0 : Nat} {x1 : Int32} {x2 : UInt64} {x4 : Int32} {x5 : Int32}  (k : xw G m_Model_scoreOf F L bc bs pr px 51 [some (.ref a0), some (.int x1), some (.double x2), none, some (.int x4), some (.int x5), some (.int 0), none, none, none, none, none, none, none, none, none] [] h) : xw G m_Model_scoreOf F L bc bs pr px 48 [some (.ref a0), some (.int x1), some (.double x2), none, some (.int x4), some (.int x5), none, none, none, none, none, none, none, none, none, none] [] h := by
  refine x_iconst (v := 0) d_Model_scoreOf_48 (by decide) ?_
  refine x_istore d_Model_scoreOf_49 (by decide) rfl ?_
  show xw G m_Model_scoreOf F L bc bs pr px 51 [some (.ref a0), some (.int x1), some (.double x2), none, some (.int x4), some (.int x5), some (.int 0), none, none, none, none, none, none, none, none, none] [] h
  exact k
theorem s_Model_scoreOf_51 {G : xw_G} {F L bc bs : Nat} {pr : Option Value → xw_A → Prop} {px : String → xw_A → Prop} {h : xw_A} {a0 : Nat} {x1 : Int32} {x2 : UInt64} {x4 : Int32} {x5 : Int32} {x6 : Int32} {fs_a0 : List Value} {phrases_a0 : Int32} (l_a0 : fs_a0.length = 62) (e_a0 : h a0 = some (.inr (11, fs_a0))) (g_a0_phrases : fs_a0[(34 : Nat)]? = some (.int phrases_a0)) (kt : phrases_a0 ≤ x6 → xw G m_Model_scoreOf F L bc bs pr px 249 [none, none, some (.double x2), none, none, none, none, none, none, none, none, none, none, none, none, none] [] h) (kf : ¬ phrases_a0 ≤ x6 → xw G m_Model_scoreOf F L bc bs pr px 60 [some (.ref a0), some (.int x1), some (.double x2), none, some (.int x4), some (.int x5), some (.int x6), none, none, none, none, none, none, none, none, none] [] h) : xw G m_Model_scoreOf F L bc bs pr px 51 [some (.ref a0), some (.int x1), some (.double x2), none, some (.int x4), some (.int x5), some (.int x6), none, none, none, none, none, none, none, none, none] [] h := by
  refine x_iload d_Model_scoreOf_51 rfl ?_
  refine x_aload_n d_Model_scoreOf_53 rfl rfl ?_
  refine x_get d_Model_scoreOf_54 f_Model_247 e_a0 g_a0_phrases ?_
  refine x_icmp_ge (tgt := 249) d_Model_scoreOf_57 (by decide) (fun hc => ?_) (fun hc => ?_)
  · exact x_le (lv' := [none, none, some (.double x2), none, none, none, none, none, none, none, none, none, none, none, none, none]) (xw_le_n (xw_le_n (xw_le_s (xw_le_n (xw_le_n (xw_le_n (xw_le_n (xw_le_n (xw_le_n (xw_le_n (xw_le_n (xw_le_n (xw_le_n (xw_le_n (xw_le_n (xw_le_n xw_le_e)))))))))))))))) (kt hc)
  · exact kf hc
theorem s_Model_scoreOf_60 {G : xw_G} {F L bc bs : Nat} {pr : Option Value → xw_A → Prop} {px : String → xw_A → Prop} {h : xw_A} {a0 : Nat} {x1 : Int32} {x2 : UInt64} {x4 : Int32} {x5 : Int32} {x6 : Int32}  (k : xw G m_Model_scoreOf F L bc bs pr px 66 [some (.ref a0), some (.int x1), some (.double x2), none, some (.int x4), some (.int x5), some (.int x6), some (.int 0), some (.int 0), none, none, none, none, none, none, none] [] h) : xw G m_Model_scoreOf F L bc bs pr px 60 [some (.ref a0), some (.int x1), some (.double x2), none, some (.int x4), some (.int x5), some (.int x6), none, none, none, none, none, none, none, none, none] [] h := by
  refine x_iconst (v := 0) d_Model_scoreOf_60 (by decide) ?_
  refine x_istore d_Model_scoreOf_61 (by decide) rfl ?_
  show xw G m_Model_scoreOf F L bc bs pr px 63 [some (.ref a0), some (.int x1), some (.double x2), none, some (.int x4), some (.int x5), some (.int x6), some (.int 0), none, none, none, none, none, none, none, none] [] h
  refine x_iconst (v := 0) d_Model_scoreOf_63 (by decide) ?_
  refine x_istore d_Model_scoreOf_64 (by decide) rfl ?_
  show xw G m_Model_scoreOf F L bc bs pr px 66 [some (.ref a0), some (.int x1), some (.double x2), none, some (.int x4), some (.int x5), some (.int x6), some (.int 0), some (.int 0), none, none, none, none, none, none, none] [] h
  exact k
theorem s_Model_scoreOf_66 {G : xw_G} {F L bc bs : Nat} {pr : Option Value → xw_A → Prop} {px : String → xw_A → Prop} {h : xw_A} {a0 : Nat} {x1 : Int32} {x2 : UInt64} {x4 : Int32} {x5 : Int32} {x6 : Int32} {x7 : Int32} {x8 : Int32}  (kt : 24 ≤ x8 → xw G m_Model_scoreOf F L bc bs pr px 114 [some (.ref a0), some (.int x1), some (.double x2), none, some (.int x4), some (.int x5), some (.int x6), some (.int x7), none, none, none, none, none, none, none, none] [] h) (kf : ¬ 24 ≤ x8 → xw G m_Model_scoreOf F L bc bs pr px 73 [some (.ref a0), some (.int x1), some (.double x2), none, some (.int x4), some (.int x5), some (.int x6), some (.int x7), some (.int x8), none, none, none, none, none, none, none] [] h) : xw G m_Model_scoreOf F L bc bs pr px 66 [some (.ref a0), some (.int x1), some (.double x2), none, some (.int x4), some (.int x5), some (.int x6), some (.int x7), some (.int x8), none, none, none, none, none, none, none] [] h := by
  refine x_iload d_Model_scoreOf_66 rfl ?_
  refine x_bipush (v := 24) d_Model_scoreOf_68 (by decide) ?_
  refine x_icmp_ge (tgt := 114) d_Model_scoreOf_70 (by decide) (fun hc => ?_) (fun hc => ?_)
  · exact x_le (lv' := [some (.ref a0), some (.int x1), some (.double x2), none, some (.int x4), some (.int x5), some (.int x6), some (.int x7), none, none, none, none, none, none, none, none]) (xw_le_s (xw_le_s (xw_le_s (xw_le_n (xw_le_s (xw_le_s (xw_le_s (xw_le_s (xw_le_n (xw_le_n (xw_le_n (xw_le_n (xw_le_n (xw_le_n (xw_le_n (xw_le_n xw_le_e)))))))))))))))) (kt hc)
  · exact kf hc
theorem s_Model_scoreOf_73 {G : xw_G} {F L bc bs : Nat} {pr : Option Value → xw_A → Prop} {px : String → xw_A → Prop} {h : xw_A} {a0 : Nat} {x1 : Int32} {x2 : UInt64} {x4 : Int32} {x5 : Int32} {x6 : Int32} {x7 : Int32} {x8 : Int32} {fs_a0 : List Value} {live_a0 : Nat} {n_live_a0 : Nat} {f_live_a0 : Nat → Int32} (l_a0 : fs_a0.length = 62) (e_a0 : h a0 = some (.inr (11, fs_a0))) (g_a0_live : fs_a0[(14 : Nat)]? = some (.ref live_a0)) (e_live_a0 : h live_a0 = some (.inl (0, n_live_a0, .inl f_live_a0))) (i_79 : vp_in x8 n_live_a0) (kt : (f_live_a0 x8.toNatClampNeg) < 0 → xw G m_Model_scoreOf F L bc bs pr px 108 [some (.ref a0), some (.int x1), some (.double x2), none, some (.int x4), some (.int x5), some (.int x6), some (.int x7), some (.int x8), none, none, none, none, none, none, none] [] h) (kf : ¬ (f_live_a0 x8.toNatClampNeg) < 0 → xw G m_Model_scoreOf F L bc bs pr px 83 [some (.ref a0), some (.int x1), some (.double x2), none, some (.int x4), some (.int x5), some (.int x6), some (.int x7), some (.int x8), none, none, none, none, none, none, none] [] h) : xw G m_Model_scoreOf F L bc bs pr px 73 [some (.ref a0), some (.int x1), some (.double x2), none, some (.int x4), some (.int x5), some (.int x6), some (.int x7), some (.int x8), none, none, none, none, none, none, none] [] h := by
  refine x_aload_n d_Model_scoreOf_73 rfl rfl ?_
  refine x_get d_Model_scoreOf_74 f_Model_44 e_a0 g_a0_live ?_
  refine x_iload d_Model_scoreOf_77 rfl ?_
  refine x_iald d_Model_scoreOf_79 e_live_a0 i_79 ?_
  refine x_if_lt (tgt := 108) d_Model_scoreOf_80 (by decide) (fun hc => ?_) (fun hc => ?_)
  · exact kt hc
  · exact kf hc
theorem s_Model_scoreOf_83 {G : xw_G} {F L bc bs : Nat} {pr : Option Value → xw_A → Prop} {px : String → xw_A → Prop} {h : xw_A} {a0 : Nat} {x1 : Int32} {x2 : UInt64} {x4 : Int32} {x5 : Int32} {x6 : Int32} {x7 : Int32} {x8 : Int32}  (k : xw G m_Model_scoreOf F L bc bs pr px 89 [some (.ref a0), some (.int x1), some (.double x2), none, some (.int x4), some (.int x5), some (.int x6), some (.int x7), some (.int x8), none, none, none, none, none, none, none] [.int 0, .int x8, .int x6, .ref a0] h) : xw G m_Model_scoreOf F L bc bs pr px 83 [some (.ref a0), some (.int x1), some (.double x2), none, some (.int x4), some (.int x5), some (.int x6), some (.int x7), some (.int x8), none, none, none, none, none, none, none] [] h := by
  refine x_aload_n d_Model_scoreOf_83 rfl rfl ?_
  refine x_iload d_Model_scoreOf_84 rfl ?_
  refine x_iload d_Model_scoreOf_86 rfl ?_
  refine x_iconst (v := 0) d_Model_scoreOf_88 (by decide) ?_
  exact k
theorem s_Model_scoreOf_92 {G : xw_G} {F L bc bs : Nat} {pr : Option Value → xw_A → Prop} {px : String → xw_A → Prop} {h : xw_A} {a0 : Nat} {x1 : Int32} {x2 : UInt64} {x4 : Int32} {x5 : Int32} {x6 : Int32} {x7 : Int32} {x8 : Int32} {y0 : Int32}  (k : xw G m_Model_scoreOf F L bc bs pr px 98 [some (.ref a0), some (.int x1), some (.double x2), none, some (.int x4), some (.int x5), some (.int x6), some (.int x7), some (.int x8), none, none, none, none, none, none, none] [.int 1, .int x8, .int x6, .ref a0, .int y0] h) : xw G m_Model_scoreOf F L bc bs pr px 92 [some (.ref a0), some (.int x1), some (.double x2), none, some (.int x4), some (.int x5), some (.int x6), some (.int x7), some (.int x8), none, none, none, none, none, none, none] [.int y0] h := by
  refine x_aload_n d_Model_scoreOf_92 rfl rfl ?_
  refine x_iload d_Model_scoreOf_93 rfl ?_
  refine x_iload d_Model_scoreOf_95 rfl ?_
  refine x_iconst (v := 1) d_Model_scoreOf_97 (by decide) ?_
  exact k
theorem s_Model_scoreOf_101 {G : xw_G} {F L bc bs : Nat} {pr : Option Value → xw_A → Prop} {px : String → xw_A → Prop} {h : xw_A} {a0 : Nat} {x1 : Int32} {x2 : UInt64} {x4 : Int32} {x5 : Int32} {x6 : Int32} {x7 : Int32} {x8 : Int32} {y0 : Int32} {y1 : Int32}  (kt : (y1 + y0) ≤ 0 → xw G m_Model_scoreOf F L bc bs pr px 108 [some (.ref a0), some (.int x1), some (.double x2), none, some (.int x4), some (.int x5), some (.int x6), some (.int x7), some (.int x8), none, none, none, none, none, none, none] [] h) (kf : ¬ (y1 + y0) ≤ 0 → xw G m_Model_scoreOf F L bc bs pr px 105 [some (.ref a0), some (.int x1), some (.double x2), none, some (.int x4), some (.int x5), some (.int x6), some (.int x7), some (.int x8), none, none, none, none, none, none, none] [] h) : xw G m_Model_scoreOf F L bc bs pr px 101 [some (.ref a0), some (.int x1), some (.double x2), none, some (.int x4), some (.int x5), some (.int x6), some (.int x7), some (.int x8), none, none, none, none, none, none, none] [.int y0, .int y1] h := by
  refine x_iadd d_Model_scoreOf_101 ?_
  refine x_if_le (tgt := 108) d_Model_scoreOf_102 (by decide) (fun hc => ?_) (fun hc => ?_)
  · exact kt hc
  · exact kf hc
theorem s_Model_scoreOf_105 {G : xw_G} {F L bc bs : Nat} {pr : Option Value → xw_A → Prop} {px : String → xw_A → Prop} {h : xw_A} {a0 : Nat} {x1 : Int32} {x2 : UInt64} {x4 : Int32} {x5 : Int32} {x6 : Int32} {x7 : Int32} {x8 : Int32}  (k : xw G m_Model_scoreOf F L bc bs pr px 108 [some (.ref a0), some (.int x1), some (.double x2), none, some (.int x4), some (.int x5), some (.int x6), some (.int (x7 + 1)), some (.int x8), none, none, none, none, none, none, none] [] h) : xw G m_Model_scoreOf F L bc bs pr px 105 [some (.ref a0), some (.int x1), some (.double x2), none, some (.int x4), some (.int x5), some (.int x6), some (.int x7), some (.int x8), none, none, none, none, none, none, none] [] h := by
  refine x_iinc (v := x7 + 1) d_Model_scoreOf_105 rfl (by rfl) (by decide) rfl ?_
  show xw G m_Model_scoreOf F L bc bs pr px 108 [some (.ref a0), some (.int x1), some (.double x2), none, some (.int x4), some (.int x5), some (.int x6), some (.int (x7 + 1)), some (.int x8), none, none, none, none, none, none, none] [] h
  exact k
theorem s_Model_scoreOf_108 {G : xw_G} {F L bc bs : Nat} {pr : Option Value → xw_A → Prop} {px : String → xw_A → Prop} {h : xw_A} {a0 : Nat} {x1 : Int32} {x2 : UInt64} {x4 : Int32} {x5 : Int32} {x6 : Int32} {x7 : Int32} {x8 : Int32}  (k : xw G m_Model_scoreOf F L bc bs pr px 66 [some (.ref a0), some (.int x1), some (.double x2), none, some (.int x4), some (.int x5), some (.int x6), some (.int x7), some (.int (x8 + 1)), none, none, none, none, none, none, none] [] h) : xw G m_Model_scoreOf F L bc bs pr px 108 [some (.ref a0), some (.int x1), some (.double x2), none, some (.int x4), some (.int x5), some (.int x6), some (.int x7), some (.int x8), none, none, none, none, none, none, none] [] h := by
  refine x_iinc (v := x8 + 1) d_Model_scoreOf_108 rfl (by rfl) (by decide) rfl ?_
  show xw G m_Model_scoreOf F L bc bs pr px 111 [some (.ref a0), some (.int x1), some (.double x2), none, some (.int x4), some (.int x5), some (.int x6), some (.int x7), some (.int (x8 + 1)), none, none, none, none, none, none, none] [] h
  refine x_goto (tgt := 66) d_Model_scoreOf_111 (by decide) ?_
  exact k
theorem s_Model_scoreOf_114 {G : xw_G} {F L bc bs : Nat} {pr : Option Value → xw_A → Prop} {px : String → xw_A → Prop} {h : xw_A} {a0 : Nat} {x1 : Int32} {x2 : UInt64} {x4 : Int32} {x5 : Int32} {x6 : Int32} {x7 : Int32} {fs_a0 : List Value} {weights_a0 : Nat} {n_weights_a0 : Nat} {f_weights_a0 : Nat → Int32} (l_a0 : fs_a0.length = 62) (e_a0 : h a0 = some (.inr (11, fs_a0))) (g_a0_weights : fs_a0[(9 : Nat)]? = some (.ref weights_a0)) (e_weights_a0 : h weights_a0 = some (.inl (0, n_weights_a0, .inl f_weights_a0))) (i_119 : vp_in 0 n_weights_a0) (k : xw G m_Model_scoreOf F L bc bs pr px 125 [some (.ref a0), some (.int x1), some (.double x2), none, some (.int x4), some (.int x5), some (.int x6), some (.int x7), none, none, none, none, none, none, none, none] [.int 0, .int x1, .int x6, .ref a0, .int (f_weights_a0 (0 : Int32).toNatClampNeg)] h) : xw G m_Model_scoreOf F L bc bs pr px 114 [some (.ref a0), some (.int x1), some (.double x2), none, some (.int x4), some (.int x5), some (.int x6), some (.int x7), none, none, none, none, none, none, none, none] [] h := by
  refine x_aload_n d_Model_scoreOf_114 rfl rfl ?_
  refine x_get d_Model_scoreOf_115 f_Model_35 e_a0 g_a0_weights ?_
  refine x_iconst (v := 0) d_Model_scoreOf_118 (by decide) ?_
  refine x_iald d_Model_scoreOf_119 e_weights_a0 i_119 ?_
  refine x_aload_n d_Model_scoreOf_120 rfl rfl ?_
  refine x_iload d_Model_scoreOf_121 rfl ?_
  refine x_iload_n d_Model_scoreOf_123 rfl rfl ?_
  refine x_iconst (v := 0) d_Model_scoreOf_124 (by decide) ?_
  exact k
theorem s_Model_scoreOf_128 {G : xw_G} {F L bc bs : Nat} {pr : Option Value → xw_A → Prop} {px : String → xw_A → Prop} {h : xw_A} {a0 : Nat} {x1 : Int32} {x2 : UInt64} {x4 : Int32} {x5 : Int32} {x6 : Int32} {x7 : Int32} {y0 : Int32} {y1 : Int32} {fs_a0 : List Value} {weights_a0 : Nat} {n_weights_a0 : Nat} {f_weights_a0 : Nat → Int32} (l_a0 : fs_a0.length = 62) (e_a0 : h a0 = some (.inr (11, fs_a0))) (g_a0_weights : fs_a0[(9 : Nat)]? = some (.ref weights_a0)) (e_weights_a0 : h weights_a0 = some (.inl (0, n_weights_a0, .inl f_weights_a0))) (i_134 : vp_in 1 n_weights_a0) (k : xw G m_Model_scoreOf F L bc bs pr px 140 [some (.ref a0), some (.int x1), some (.double x2), none, some (.int x4), some (.int x5), some (.int x6), some (.int x7), none, none, none, none, none, none, none, none] [.int 1, .int x1, .int x6, .ref a0, .int (f_weights_a0 (1 : Int32).toNatClampNeg), .int (y1 * y0)] h) : xw G m_Model_scoreOf F L bc bs pr px 128 [some (.ref a0), some (.int x1), some (.double x2), none, some (.int x4), some (.int x5), some (.int x6), some (.int x7), none, none, none, none, none, none, none, none] [.int y0, .int y1] h := by
  refine x_imul d_Model_scoreOf_128 ?_
  refine x_aload_n d_Model_scoreOf_129 rfl rfl ?_
  refine x_get d_Model_scoreOf_130 f_Model_35 e_a0 g_a0_weights ?_
  refine x_iconst (v := 1) d_Model_scoreOf_133 (by decide) ?_
  refine x_iald d_Model_scoreOf_134 e_weights_a0 i_134 ?_
  refine x_aload_n d_Model_scoreOf_135 rfl rfl ?_
  refine x_iload d_Model_scoreOf_136 rfl ?_
  refine x_iload_n d_Model_scoreOf_138 rfl rfl ?_
  refine x_iconst (v := 1) d_Model_scoreOf_139 (by decide) ?_
  exact k
theorem s_Model_scoreOf_143 {G : xw_G} {F L bc bs : Nat} {pr : Option Value → xw_A → Prop} {px : String → xw_A → Prop} {h : xw_A} {a0 : Nat} {x1 : Int32} {x2 : UInt64} {x4 : Int32} {x5 : Int32} {x6 : Int32} {x7 : Int32} {y0 : Int32} {y1 : Int32} {y2 : Int32}  (k : xw G m_Model_scoreOf F L bc bs pr px 150 [some (.ref a0), some (.int x1), some (.double x2), none, some (.int x4), some (.int x5), some (.int x6), some (.int x7), some (.double (FP.i2d (y2 + (y1 * y0)))), none, none, none, none, none, none, none] [.int x1, .ref a0] h) : xw G m_Model_scoreOf F L bc bs pr px 143 [some (.ref a0), some (.int x1), some (.double x2), none, some (.int x4), some (.int x5), some (.int x6), some (.int x7), none, none, none, none, none, none, none, none] [.int y0, .int y1, .int y2] h := by
  refine x_imul d_Model_scoreOf_143 ?_
  refine x_iadd d_Model_scoreOf_144 ?_
  refine x_i2d d_Model_scoreOf_145 ?_
  refine x_dstore d_Model_scoreOf_146 (by decide) rfl ?_
  show xw G m_Model_scoreOf F L bc bs pr px 148 [some (.ref a0), some (.int x1), some (.double x2), none, some (.int x4), some (.int x5), some (.int x6), some (.int x7), some (.double (FP.i2d (y2 + (y1 * y0)))), none, none, none, none, none, none, none] [] h
  refine x_aload_n d_Model_scoreOf_148 rfl rfl ?_
  refine x_iload_n d_Model_scoreOf_149 rfl rfl ?_
  exact k
theorem s_Model_scoreOf_153 {G : xw_G} {F L bc bs : Nat} {pr : Option Value → xw_A → Prop} {px : String → xw_A → Prop} {h : xw_A} {a0 : Nat} {x1 : Int32} {x2 : UInt64} {x4 : Int32} {x5 : Int32} {x6 : Int32} {x7 : Int32} {x8 : UInt64} {y0 : Int32} (w_162 : vf_n64 (FP.ddiv (FP.i2d x4) (FP.i2d x5))) (kt : ¬ (Op.cmpValue (FP.dcmp x8 FP.dconst0) .l) = 0 → xw G m_Model_scoreOf F L bc bs pr px 175 [some (.ref a0), some (.int x1), some (.double x2), none, some (.int x4), some (.int x5), some (.int x6), some (.int x7), some (.double x8), none, some (.double (FP.i2d y0)), none, some (.double (FP.ddiv (FP.i2d x4) (FP.i2d x5))), none, none, none] [] h) (kf : (Op.cmpValue (FP.dcmp x8 FP.dconst0) .l) = 0 → xw G m_Model_scoreOf F L bc bs pr px 172 [some (.ref a0), some (.int x1), some (.double x2), none, some (.int x4), some (.int x5), some (.int x6), none, none, none, none, none, none, none, none, none] [] h) : xw G m_Model_scoreOf F L bc bs pr px 153 [some (.ref a0), some (.int x1), some (.double x2), none, some (.int x4), some (.int x5), some (.int x6), some (.int x7), some (.double x8), none, none, none, none, none, none, none] [.int y0] h := by
  refine x_i2d d_Model_scoreOf_153 ?_
  refine x_dstore d_Model_scoreOf_154 (by decide) trivial ?_
  show xw G m_Model_scoreOf F L bc bs pr px 156 [some (.ref a0), some (.int x1), some (.double x2), none, some (.int x4), some (.int x5), some (.int x6), some (.int x7), some (.double x8), none, some (.double (FP.i2d y0)), none, none, none, none, none] [] h
  refine x_iload d_Model_scoreOf_156 rfl ?_
  refine x_i2d d_Model_scoreOf_158 ?_
  refine x_iload d_Model_scoreOf_159 rfl ?_
  refine x_i2d d_Model_scoreOf_161 ?_
  refine x_ddiv d_Model_scoreOf_162 w_162 ?_
  refine x_dstore d_Model_scoreOf_163 (by decide) trivial ?_
  show xw G m_Model_scoreOf F L bc bs pr px 165 [some (.ref a0), some (.int x1), some (.double x2), none, some (.int x4), some (.int x5), some (.int x6), some (.int x7), some (.double x8), none, some (.double (FP.i2d y0)), none, some (.double (FP.ddiv (FP.i2d x4) (FP.i2d x5))), none, none, none] [] h
  refine x_dload d_Model_scoreOf_165 rfl ?_
  refine x_dconst0 d_Model_scoreOf_167 ?_
  refine x_dcmp d_Model_scoreOf_168 ?_
  refine x_if_ne (tgt := 175) d_Model_scoreOf_169 (by decide) (fun hc => ?_) (fun hc => ?_)
  · exact kt hc
  · exact x_le (lv' := [some (.ref a0), some (.int x1), some (.double x2), none, some (.int x4), some (.int x5), some (.int x6), none, none, none, none, none, none, none, none, none]) (xw_le_s (xw_le_s (xw_le_s (xw_le_n (xw_le_s (xw_le_s (xw_le_s (xw_le_n (xw_le_n (xw_le_n (xw_le_n (xw_le_n (xw_le_n (xw_le_n (xw_le_n (xw_le_n xw_le_e)))))))))))))))) (kf hc)
theorem s_Model_scoreOf_172 {G : xw_G} {F L bc bs : Nat} {pr : Option Value → xw_A → Prop} {px : String → xw_A → Prop} {h : xw_A} {a0 : Nat} {x1 : Int32} {x2 : UInt64} {x4 : Int32} {x5 : Int32} {x6 : Int32}  (k : xw G m_Model_scoreOf F L bc bs pr px 243 [some (.ref a0), some (.int x1), some (.double x2), none, some (.int x4), some (.int x5), some (.int x6), none, none, none, none, none, none, none, none, none] [] h) : xw G m_Model_scoreOf F L bc bs pr px 172 [some (.ref a0), some (.int x1), some (.double x2), none, some (.int x4), some (.int x5), some (.int x6), none, none, none, none, none, none, none, none, none] [] h := by
  refine x_goto (tgt := 243) d_Model_scoreOf_172 (by decide) ?_
  exact k
theorem s_Model_scoreOf_175 {G : xw_G} {F L bc bs : Nat} {pr : Option Value → xw_A → Prop} {px : String → xw_A → Prop} {h : xw_A} {a0 : Nat} {x1 : Int32} {x2 : UInt64} {x4 : Int32} {x5 : Int32} {x6 : Int32} {x7 : Int32} {x8 : UInt64} {x10 : UInt64} {x12 : UInt64} (w_184 : vf_n64 (FP.dadd (FP.i2d (x5 - x7)) 4602678819172646912)) (w_191 : vf_n64 (FP.dadd (FP.i2d x7) 4602678819172646912)) (w_192 : vf_n64 (FP.ddiv (FP.dadd (FP.i2d (x5 - x7)) 4602678819172646912) (FP.dadd (FP.i2d x7) 4602678819172646912))) (k : xw G m_Model_scoreOf F L bc bs pr px 193 [some (.ref a0), some (.int x1), some (.double x2), none, some (.int x4), some (.int x5), some (.int x6), some (.int x7), some (.double x8), none, some (.double x10), none, some (.double x12), none, none, none] [.double (FP.ddiv (FP.dadd (FP.i2d (x5 - x7)) 4602678819172646912) (FP.dadd (FP.i2d x7) 4602678819172646912))] h) : xw G m_Model_scoreOf F L bc bs pr px 175 [some (.ref a0), some (.int x1), some (.double x2), none, some (.int x4), some (.int x5), some (.int x6), some (.int x7), some (.double x8), none, some (.double x10), none, some (.double x12), none, none, none] [] h := by
  refine x_iload d_Model_scoreOf_175 rfl ?_
  refine x_iload d_Model_scoreOf_177 rfl ?_
  refine x_isub d_Model_scoreOf_179 ?_
  refine x_i2d d_Model_scoreOf_180 ?_
  refine x_ldc2d (v := 4602678819172646912) d_Model_scoreOf_181 (by decide +kernel) ?_
  refine x_dadd d_Model_scoreOf_184 w_184 ?_
  refine x_iload d_Model_scoreOf_185 rfl ?_
  refine x_i2d d_Model_scoreOf_187 ?_
  refine x_ldc2d (v := 4602678819172646912) d_Model_scoreOf_188 (by decide +kernel) ?_
  refine x_dadd d_Model_scoreOf_191 w_191 ?_
  refine x_ddiv d_Model_scoreOf_192 w_192 ?_
  exact k
theorem s_Model_scoreOf_196 {G : xw_G} {F L bc bs : Nat} {pr : Option Value → xw_A → Prop} {px : String → xw_A → Prop} {h : xw_A} {a0 : Nat} {x1 : Int32} {x2 : UInt64} {x4 : Int32} {x5 : Int32} {x6 : Int32} {x8 : UInt64} {x10 : UInt64} {x12 : UInt64} {y0 : UInt64}  (kt : 0 < (Op.cmpValue (FP.dcmp y0 FP.dconst0) .l) → xw G m_Model_scoreOf F L bc bs pr px 210 [some (.ref a0), some (.int x1), some (.double x2), none, some (.int x4), some (.int x5), some (.int x6), none, some (.double x8), none, some (.double x10), none, some (.double x12), none, some (.double y0), none] [] h) (kf : ¬ 0 < (Op.cmpValue (FP.dcmp y0 FP.dconst0) .l) → xw G m_Model_scoreOf F L bc bs pr px 205 [some (.ref a0), some (.int x1), some (.double x2), none, some (.int x4), some (.int x5), some (.int x6), none, some (.double x8), none, some (.double x10), none, some (.double x12), none, none, none] [] h) : xw G m_Model_scoreOf F L bc bs pr px 196 [some (.ref a0), some (.int x1), some (.double x2), none, some (.int x4), some (.int x5), some (.int x6), none, some (.double x8), none, some (.double x10), none, some (.double x12), none, none, none] [.double y0] h := by
  refine x_dstore d_Model_scoreOf_196 (by decide) trivial ?_
  show xw G m_Model_scoreOf F L bc bs pr px 198 [some (.ref a0), some (.int x1), some (.double x2), none, some (.int x4), some (.int x5), some (.int x6), none, some (.double x8), none, some (.double x10), none, some (.double x12), none, some (.double y0), none] [] h
  refine x_dload d_Model_scoreOf_198 rfl ?_
  refine x_dconst0 d_Model_scoreOf_200 ?_
  refine x_dcmp d_Model_scoreOf_201 ?_
  refine x_if_gt (tgt := 210) d_Model_scoreOf_202 (by decide) (fun hc => ?_) (fun hc => ?_)
  · exact kt hc
  · exact x_le (lv' := [some (.ref a0), some (.int x1), some (.double x2), none, some (.int x4), some (.int x5), some (.int x6), none, some (.double x8), none, some (.double x10), none, some (.double x12), none, none, none]) (xw_le_s (xw_le_s (xw_le_s (xw_le_n (xw_le_s (xw_le_s (xw_le_s (xw_le_n (xw_le_s (xw_le_n (xw_le_s (xw_le_n (xw_le_s (xw_le_n (xw_le_n (xw_le_n xw_le_e)))))))))))))))) (kf hc)
theorem s_Model_scoreOf_205 {G : xw_G} {F L bc bs : Nat} {pr : Option Value → xw_A → Prop} {px : String → xw_A → Prop} {h : xw_A} {a0 : Nat} {x1 : Int32} {x2 : UInt64} {x4 : Int32} {x5 : Int32} {x6 : Int32} {x8 : UInt64} {x10 : UInt64} {x12 : UInt64}  (k : xw G m_Model_scoreOf F L bc bs pr px 210 [some (.ref a0), some (.int x1), some (.double x2), none, some (.int x4), some (.int x5), some (.int x6), none, some (.double x8), none, some (.double x10), none, some (.double x12), none, some (.double 4517329193108106637), none] [] h) : xw G m_Model_scoreOf F L bc bs pr px 205 [some (.ref a0), some (.int x1), some (.double x2), none, some (.int x4), some (.int x5), some (.int x6), none, some (.double x8), none, some (.double x10), none, some (.double x12), none, none, none] [] h := by
  refine x_ldc2d (v := 4517329193108106637) d_Model_scoreOf_205 (by decide +kernel) ?_
  refine x_dstore d_Model_scoreOf_208 (by decide) trivial ?_
  show xw G m_Model_scoreOf F L bc bs pr px 210 [some (.ref a0), some (.int x1), some (.double x2), none, some (.int x4), some (.int x5), some (.int x6), none, some (.double x8), none, some (.double x10), none, some (.double x12), none, some (.double 4517329193108106637), none] [] h
  exact k
theorem s_Model_scoreOf_210 {G : xw_G} {F L bc bs : Nat} {pr : Option Value → xw_A → Prop} {px : String → xw_A → Prop} {h : xw_A} {a0 : Nat} {x1 : Int32} {x2 : UInt64} {x4 : Int32} {x5 : Int32} {x6 : Int32} {x8 : UInt64} {x10 : UInt64} {x12 : UInt64} {x14 : UInt64} (w_218 : vf_n64 (FP.dmul x8 4612136378390124954)) (w_219 : vf_n64 (FP.dmul x14 (FP.dmul x8 4612136378390124954))) (w_233 : vf_n64 (FP.dmul 4604930618986332160 x10)) (w_236 : vf_n64 (FP.ddiv (FP.dmul 4604930618986332160 x10) x12)) (w_237 : vf_n64 (FP.dadd 4598175219545276416 (FP.ddiv (FP.dmul 4604930618986332160 x10) x12))) (w_238 : vf_n64 (FP.dmul 4608083138725491507 (FP.dadd 4598175219545276416 (FP.ddiv (FP.dmul 4604930618986332160 x10) x12)))) (w_239 : vf_n64 (FP.dadd x8 (FP.dmul 4608083138725491507 (FP.dadd 4598175219545276416 (FP.ddiv (FP.dmul 4604930618986332160 x10) x12))))) (w_240 : vf_n64 (FP.ddiv (FP.dmul x14 (FP.dmul x8 4612136378390124954)) (FP.dadd x8 (FP.dmul 4608083138725491507 (FP.dadd 4598175219545276416 (FP.ddiv (FP.dmul 4604930618986332160 x10) x12)))))) (w_241 : vf_n64 (FP.dadd x2 (FP.ddiv (FP.dmul x14 (FP.dmul x8 4612136378390124954)) (FP.dadd x8 (FP.dmul 4608083138725491507 (FP.dadd 4598175219545276416 (FP.ddiv (FP.dmul 4604930618986332160 x10) x12))))))) (k : xw G m_Model_scoreOf F L bc bs pr px 243 [some (.ref a0), some (.int x1), some (.double (FP.dadd x2 (FP.ddiv (FP.dmul x14 (FP.dmul x8 4612136378390124954)) (FP.dadd x8 (FP.dmul 4608083138725491507 (FP.dadd 4598175219545276416 (FP.ddiv (FP.dmul 4604930618986332160 x10) x12))))))), none, some (.int x4), some (.int x5), some (.int x6), none, none, none, none, none, none, none, none, none] [] h) : xw G m_Model_scoreOf F L bc bs pr px 210 [some (.ref a0), some (.int x1), some (.double x2), none, some (.int x4), some (.int x5), some (.int x6), none, some (.double x8), none, some (.double x10), none, some (.double x12), none, some (.double x14), none] [] h := by
  refine x_dload_n d_Model_scoreOf_210 rfl rfl ?_
  refine x_dload d_Model_scoreOf_211 rfl ?_
  refine x_dload d_Model_scoreOf_213 rfl ?_
  refine x_ldc2d (v := 4612136378390124954) d_Model_scoreOf_215 (by decide +kernel) ?_
  refine x_dmul d_Model_scoreOf_218 w_218 ?_
  refine x_dmul d_Model_scoreOf_219 w_219 ?_
  refine x_dload d_Model_scoreOf_220 rfl ?_
  refine x_ldc2d (v := 4608083138725491507) d_Model_scoreOf_222 (by decide +kernel) ?_
  refine x_ldc2d (v := 4598175219545276416) d_Model_scoreOf_225 (by decide +kernel) ?_
  refine x_ldc2d (v := 4604930618986332160) d_Model_scoreOf_228 (by decide +kernel) ?_
  refine x_dload d_Model_scoreOf_231 rfl ?_
  refine x_dmul d_Model_scoreOf_233 w_233 ?_
  refine x_dload d_Model_scoreOf_234 rfl ?_
  refine x_ddiv d_Model_scoreOf_236 w_236 ?_
  refine x_dadd d_Model_scoreOf_237 w_237 ?_
  refine x_dmul d_Model_scoreOf_238 w_238 ?_
  refine x_dadd d_Model_scoreOf_239 w_239 ?_
  refine x_ddiv d_Model_scoreOf_240 w_240 ?_
  refine x_dadd d_Model_scoreOf_241 w_241 ?_
  refine x_dstore_n d_Model_scoreOf_242 rfl (by decide) rfl ?_
  show xw G m_Model_scoreOf F L bc bs pr px 243 [some (.ref a0), some (.int x1), some (.double (FP.dadd x2 (FP.ddiv (FP.dmul x14 (FP.dmul x8 4612136378390124954)) (FP.dadd x8 (FP.dmul 4608083138725491507 (FP.dadd 4598175219545276416 (FP.ddiv (FP.dmul 4604930618986332160 x10) x12))))))), none, some (.int x4), some (.int x5), some (.int x6), none, some (.double x8), none, some (.double x10), none, some (.double x12), none, some (.double x14), none] [] h
  exact x_le (lv' := [some (.ref a0), some (.int x1), some (.double (FP.dadd x2 (FP.ddiv (FP.dmul x14 (FP.dmul x8 4612136378390124954)) (FP.dadd x8 (FP.dmul 4608083138725491507 (FP.dadd 4598175219545276416 (FP.ddiv (FP.dmul 4604930618986332160 x10) x12))))))), none, some (.int x4), some (.int x5), some (.int x6), none, none, none, none, none, none, none, none, none]) (xw_le_s (xw_le_s (xw_le_s (xw_le_n (xw_le_s (xw_le_s (xw_le_s (xw_le_n (xw_le_n (xw_le_n (xw_le_n (xw_le_n (xw_le_n (xw_le_n (xw_le_n (xw_le_n xw_le_e)))))))))))))))) (k)
theorem s_Model_scoreOf_243 {G : xw_G} {F L bc bs : Nat} {pr : Option Value → xw_A → Prop} {px : String → xw_A → Prop} {h : xw_A} {a0 : Nat} {x1 : Int32} {x2 : UInt64} {x4 : Int32} {x5 : Int32} {x6 : Int32}  (k : xw G m_Model_scoreOf F L bc bs pr px 51 [some (.ref a0), some (.int x1), some (.double x2), none, some (.int x4), some (.int x5), some (.int (x6 + 1)), none, none, none, none, none, none, none, none, none] [] h) : xw G m_Model_scoreOf F L bc bs pr px 243 [some (.ref a0), some (.int x1), some (.double x2), none, some (.int x4), some (.int x5), some (.int x6), none, none, none, none, none, none, none, none, none] [] h := by
  refine x_iinc (v := x6 + 1) d_Model_scoreOf_243 rfl (by rfl) (by decide) rfl ?_
  show xw G m_Model_scoreOf F L bc bs pr px 246 [some (.ref a0), some (.int x1), some (.double x2), none, some (.int x4), some (.int x5), some (.int (x6 + 1)), none, none, none, none, none, none, none, none, none] [] h
  refine x_goto (tgt := 51) d_Model_scoreOf_246 (by decide) ?_
  exact k
theorem s_Model_scoreOf_249 {G : xw_G} {F L bc bs : Nat} {pr : Option Value → xw_A → Prop} {px : String → xw_A → Prop} {h : xw_A} {x2 : UInt64}  (kr : pr (some (.double x2)) h) : xw G m_Model_scoreOf F L bc bs pr px 249 [none, none, some (.double x2), none, none, none, none, none, none, none, none, none, none, none, none, none] [] h := by
  refine x_dload_n d_Model_scoreOf_249 rfl rfl ?_
  exact x_dret d_Model_scoreOf_250 rfl kr
theorem s_Model_countIn_0 {G : xw_G} {F L bc bs : Nat} {pr : Option Value → xw_A → Prop} {px : String → xw_A → Prop} {h : xw_A} {a0 : Nat} {x1 : Int32} {x2 : Int32} {x3 : Int32}  (k : xw G m_Model_countIn F L bc bs pr px 3 [some (.ref a0), some (.int x1), some (.int x2), some (.int x3), none, none] [.int x3, .int x2, .ref a0] h) : xw G m_Model_countIn F L bc bs pr px 0 [some (.ref a0), some (.int x1), some (.int x2), some (.int x3), none, none] [] h := by
  refine x_aload_n d_Model_countIn_0 rfl rfl ?_
  refine x_iload_n d_Model_countIn_1 rfl rfl ?_
  refine x_iload_n d_Model_countIn_2 rfl rfl ?_
  exact k
theorem s_Model_countIn_6 {G : xw_G} {F L bc bs : Nat} {pr : Option Value → xw_A → Prop} {px : String → xw_A → Prop} {h : xw_A} {a0 : Nat} {x1 : Int32}  (k : xw G m_Model_countIn F L bc bs pr px 12 [some (.ref a0), some (.int x1), none, none, some (.int 0), some (.int 0)] [] h) : xw G m_Model_countIn F L bc bs pr px 6 [some (.ref a0), some (.int x1), none, none, none, none] [] h := by
  refine x_iconst (v := 0) d_Model_countIn_6 (by decide) ?_
  refine x_istore d_Model_countIn_7 (by decide) trivial ?_
  show xw G m_Model_countIn F L bc bs pr px 9 [some (.ref a0), some (.int x1), none, none, some (.int 0), none] [] h
  refine x_iconst (v := 0) d_Model_countIn_9 (by decide) ?_
  refine x_istore d_Model_countIn_10 (by decide) rfl ?_
  show xw G m_Model_countIn F L bc bs pr px 12 [some (.ref a0), some (.int x1), none, none, some (.int 0), some (.int 0)] [] h
  exact k
theorem s_Model_countIn_12 {G : xw_G} {F L bc bs : Nat} {pr : Option Value → xw_A → Prop} {px : String → xw_A → Prop} {h : xw_A} {a0 : Nat} {x1 : Int32} {x4 : Int32} {x5 : Int32} {fs_a0 : List Value} {column_a0 : Int32} (l_a0 : fs_a0.length = 62) (e_a0 : h a0 = some (.inr (11, fs_a0))) (g_a0_column : fs_a0[(55 : Nat)]? = some (.int column_a0)) (kt : column_a0 ≤ x5 → xw G m_Model_countIn F L bc bs pr px 40 [none, none, none, none, some (.int x4), none] [] h) (kf : ¬ column_a0 ≤ x5 → xw G m_Model_countIn F L bc bs pr px 21 [some (.ref a0), some (.int x1), none, none, some (.int x4), some (.int x5)] [] h) : xw G m_Model_countIn F L bc bs pr px 12 [some (.ref a0), some (.int x1), none, none, some (.int x4), some (.int x5)] [] h := by
  refine x_iload d_Model_countIn_12 rfl ?_
  refine x_aload_n d_Model_countIn_14 rfl rfl ?_
  refine x_get d_Model_countIn_15 f_Model_150 e_a0 g_a0_column ?_
  refine x_icmp_ge (tgt := 40) d_Model_countIn_18 (by decide) (fun hc => ?_) (fun hc => ?_)
  · exact x_le (lv' := [none, none, none, none, some (.int x4), none]) (xw_le_n (xw_le_n (xw_le_n (xw_le_n (xw_le_s (xw_le_n xw_le_e)))))) (kt hc)
  · exact kf hc
theorem s_Model_countIn_21 {G : xw_G} {F L bc bs : Nat} {pr : Option Value → xw_A → Prop} {px : String → xw_A → Prop} {h : xw_A} {a0 : Nat} {x1 : Int32} {x4 : Int32} {x5 : Int32}  (k : xw G m_Model_countIn F L bc bs pr px 25 [some (.ref a0), some (.int x1), none, none, some (.int x4), some (.int x5)] [.int x5, .int x1, .ref a0] h) : xw G m_Model_countIn F L bc bs pr px 21 [some (.ref a0), some (.int x1), none, none, some (.int x4), some (.int x5)] [] h := by
  refine x_aload_n d_Model_countIn_21 rfl rfl ?_
  refine x_iload_n d_Model_countIn_22 rfl rfl ?_
  refine x_iload d_Model_countIn_23 rfl ?_
  exact k
theorem s_Model_countIn_28 {G : xw_G} {F L bc bs : Nat} {pr : Option Value → xw_A → Prop} {px : String → xw_A → Prop} {h : xw_A} {a0 : Nat} {x1 : Int32} {x4 : Int32} {x5 : Int32} {y0 : Int32}  (kt : y0 = 0 → xw G m_Model_countIn F L bc bs pr px 34 [some (.ref a0), some (.int x1), none, none, some (.int x4), some (.int x5)] [] h) (kf : ¬ y0 = 0 → xw G m_Model_countIn F L bc bs pr px 31 [some (.ref a0), some (.int x1), none, none, some (.int x4), some (.int x5)] [] h) : xw G m_Model_countIn F L bc bs pr px 28 [some (.ref a0), some (.int x1), none, none, some (.int x4), some (.int x5)] [.int y0] h := by
  refine x_if_eq (tgt := 34) d_Model_countIn_28 (by decide) (fun hc => ?_) (fun hc => ?_)
  · exact kt hc
  · exact kf hc
theorem s_Model_countIn_31 {G : xw_G} {F L bc bs : Nat} {pr : Option Value → xw_A → Prop} {px : String → xw_A → Prop} {h : xw_A} {a0 : Nat} {x1 : Int32} {x4 : Int32} {x5 : Int32}  (k : xw G m_Model_countIn F L bc bs pr px 34 [some (.ref a0), some (.int x1), none, none, some (.int (x4 + 1)), some (.int x5)] [] h) : xw G m_Model_countIn F L bc bs pr px 31 [some (.ref a0), some (.int x1), none, none, some (.int x4), some (.int x5)] [] h := by
  refine x_iinc (v := x4 + 1) d_Model_countIn_31 rfl (by rfl) (by decide) trivial ?_
  show xw G m_Model_countIn F L bc bs pr px 34 [some (.ref a0), some (.int x1), none, none, some (.int (x4 + 1)), some (.int x5)] [] h
  exact k
theorem s_Model_countIn_34 {G : xw_G} {F L bc bs : Nat} {pr : Option Value → xw_A → Prop} {px : String → xw_A → Prop} {h : xw_A} {a0 : Nat} {x1 : Int32} {x4 : Int32} {x5 : Int32}  (k : xw G m_Model_countIn F L bc bs pr px 12 [some (.ref a0), some (.int x1), none, none, some (.int x4), some (.int (x5 + 1))] [] h) : xw G m_Model_countIn F L bc bs pr px 34 [some (.ref a0), some (.int x1), none, none, some (.int x4), some (.int x5)] [] h := by
  refine x_iinc (v := x5 + 1) d_Model_countIn_34 rfl (by rfl) (by decide) rfl ?_
  show xw G m_Model_countIn F L bc bs pr px 37 [some (.ref a0), some (.int x1), none, none, some (.int x4), some (.int (x5 + 1))] [] h
  refine x_goto (tgt := 12) d_Model_countIn_37 (by decide) ?_
  exact k
theorem s_Model_countIn_40 {G : xw_G} {F L bc bs : Nat} {pr : Option Value → xw_A → Prop} {px : String → xw_A → Prop} {h : xw_A} {x4 : Int32}  (kr : pr (some (.int x4)) h) : xw G m_Model_countIn F L bc bs pr px 40 [none, none, none, none, some (.int x4), none] [] h := by
  refine x_iload d_Model_countIn_40 rfl ?_
  exact x_iret d_Model_countIn_42 rfl kr
theorem s_Model_logarithm_0 {G : xw_G} {F L bc bs : Nat} {pr : Option Value → xw_A → Prop} {px : String → xw_A → Prop} {h : xw_A} {x0 : UInt64}  (k : xw G m_Model_logarithm F L bc bs pr px 5 [none, none, some (.double x0), none, some (.int 0), none, none, none, none, none, none, none] [] h) : xw G m_Model_logarithm F L bc bs pr px 0 [some (.double x0), none, none, none, none, none, none, none, none, none, none, none] [] h := by
  refine x_dload_n d_Model_logarithm_0 rfl rfl ?_
  refine x_dstore_n d_Model_logarithm_1 rfl (by decide) trivial ?_
  show xw G m_Model_logarithm F L bc bs pr px 2 [some (.double x0), none, some (.double x0), none, none, none, none, none, none, none, none, none] [] h
  refine x_iconst (v := 0) d_Model_logarithm_2 (by decide) ?_
  refine x_istore d_Model_logarithm_3 (by decide) trivial ?_
  show xw G m_Model_logarithm F L bc bs pr px 5 [some (.double x0), none, some (.double x0), none, some (.int 0), none, none, none, none, none, none, none] [] h
  exact x_le (lv' := [none, none, some (.double x0), none, some (.int 0), none, none, none, none, none, none, none]) (xw_le_n (xw_le_n (xw_le_s (xw_le_n (xw_le_s (xw_le_n (xw_le_n (xw_le_n (xw_le_n (xw_le_n (xw_le_n (xw_le_n xw_le_e)))))))))))) (k)
theorem s_Model_logarithm_5 {G : xw_G} {F L bc bs : Nat} {pr : Option Value → xw_A → Prop} {px : String → xw_A → Prop} {h : xw_A} {x2 : UInt64} {x4 : Int32}  (kt : (Op.cmpValue (FP.dcmp x2 4609434218613702656) .l) < 0 → xw G m_Model_logarithm F L bc bs pr px 25 [none, none, some (.double x2), none, some (.int x4), none, none, none, none, none, none, none] [] h) (kf : ¬ (Op.cmpValue (FP.dcmp x2 4609434218613702656) .l) < 0 → xw G m_Model_logarithm F L bc bs pr px 13 [none, none, some (.double x2), none, some (.int x4), none, none, none, none, none, none, none] [] h) : xw G m_Model_logarithm F L bc bs pr px 5 [none, none, some (.double x2), none, some (.int x4), none, none, none, none, none, none, none] [] h := by
  refine x_dload_n d_Model_logarithm_5 rfl rfl ?_
  refine x_ldc2d (v := 4609434218613702656) d_Model_logarithm_6 (by decide +kernel) ?_
  refine x_dcmp d_Model_logarithm_9 ?_
  refine x_if_lt (tgt := 25) d_Model_logarithm_10 (by decide) (fun hc => ?_) (fun hc => ?_)
  · exact kt hc
  · exact kf hc
theorem s_Model_logarithm_13 {G : xw_G} {F L bc bs : Nat} {pr : Option Value → xw_A → Prop} {px : String → xw_A → Prop} {h : xw_A} {x2 : UInt64} {x4 : Int32} (w_17 : vf_n64 (FP.ddiv x2 4611686018427387904)) (k : xw G m_Model_logarithm F L bc bs pr px 5 [none, none, some (.double (FP.ddiv x2 4611686018427387904)), none, some (.int (x4 + 1)), none, none, none, none, none, none, none] [] h) : xw G m_Model_logarithm F L bc bs pr px 13 [none, none, some (.double x2), none, some (.int x4), none, none, none, none, none, none, none] [] h := by
  refine x_dload_n d_Model_logarithm_13 rfl rfl ?_
  refine x_ldc2d (v := 4611686018427387904) d_Model_logarithm_14 (by decide +kernel) ?_
  refine x_ddiv d_Model_logarithm_17 w_17 ?_
  refine x_dstore_n d_Model_logarithm_18 rfl (by decide) trivial ?_
  show xw G m_Model_logarithm F L bc bs pr px 19 [none, none, some (.double (FP.ddiv x2 4611686018427387904)), none, some (.int x4), none, none, none, none, none, none, none] [] h
  refine x_iinc (v := x4 + 1) d_Model_logarithm_19 rfl (by rfl) (by decide) trivial ?_
  show xw G m_Model_logarithm F L bc bs pr px 22 [none, none, some (.double (FP.ddiv x2 4611686018427387904)), none, some (.int (x4 + 1)), none, none, none, none, none, none, none] [] h
  refine x_goto (tgt := 5) d_Model_logarithm_22 (by decide) ?_
  exact k
theorem s_Model_logarithm_25 {G : xw_G} {F L bc bs : Nat} {pr : Option Value → xw_A → Prop} {px : String → xw_A → Prop} {h : xw_A} {x2 : UInt64} {x4 : Int32}  (kt : 0 ≤ (Op.cmpValue (FP.dcmp x2 4604930618986332160) .g) → xw G m_Model_logarithm F L bc bs pr px 45 [none, none, some (.double x2), none, some (.int x4), none, none, none, none, none, none, none] [] h) (kf : ¬ 0 ≤ (Op.cmpValue (FP.dcmp x2 4604930618986332160) .g) → xw G m_Model_logarithm F L bc bs pr px 33 [none, none, some (.double x2), none, some (.int x4), none, none, none, none, none, none, none] [] h) : xw G m_Model_logarithm F L bc bs pr px 25 [none, none, some (.double x2), none, some (.int x4), none, none, none, none, none, none, none] [] h := by
  refine x_dload_n d_Model_logarithm_25 rfl rfl ?_
  refine x_ldc2d (v := 4604930618986332160) d_Model_logarithm_26 (by decide +kernel) ?_
  refine x_dcmp d_Model_logarithm_29 ?_
  refine x_if_ge (tgt := 45) d_Model_logarithm_30 (by decide) (fun hc => ?_) (fun hc => ?_)
  · exact kt hc
  · exact kf hc
theorem s_Model_logarithm_33 {G : xw_G} {F L bc bs : Nat} {pr : Option Value → xw_A → Prop} {px : String → xw_A → Prop} {h : xw_A} {x2 : UInt64} {x4 : Int32} (w_37 : vf_n64 (FP.dmul x2 4611686018427387904)) (k : xw G m_Model_logarithm F L bc bs pr px 25 [none, none, some (.double (FP.dmul x2 4611686018427387904)), none, some (.int (x4 + (-1))), none, none, none, none, none, none, none] [] h) : xw G m_Model_logarithm F L bc bs pr px 33 [none, none, some (.double x2), none, some (.int x4), none, none, none, none, none, none, none] [] h := by
  refine x_dload_n d_Model_logarithm_33 rfl rfl ?_
  refine x_ldc2d (v := 4611686018427387904) d_Model_logarithm_34 (by decide +kernel) ?_
  refine x_dmul d_Model_logarithm_37 w_37 ?_
  refine x_dstore_n d_Model_logarithm_38 rfl (by decide) trivial ?_
  show xw G m_Model_logarithm F L bc bs pr px 39 [none, none, some (.double (FP.dmul x2 4611686018427387904)), none, some (.int x4), none, none, none, none, none, none, none] [] h
  refine x_iinc (v := x4 + (-1)) d_Model_logarithm_39 rfl (by rfl) (by decide) trivial ?_
  show xw G m_Model_logarithm F L bc bs pr px 42 [none, none, some (.double (FP.dmul x2 4611686018427387904)), none, some (.int (x4 + (-1))), none, none, none, none, none, none, none] [] h
  refine x_goto (tgt := 25) d_Model_logarithm_42 (by decide) ?_
  exact k
theorem s_Model_logarithm_45 {G : xw_G} {F L bc bs : Nat} {pr : Option Value → xw_A → Prop} {px : String → xw_A → Prop} {h : xw_A} {x2 : UInt64} {x4 : Int32} (w_47 : vf_n64 (FP.dsub x2 FP.dconst1)) (w_50 : vf_n64 (FP.dadd x2 FP.dconst1)) (w_51 : vf_n64 (FP.ddiv (FP.dsub x2 FP.dconst1) (FP.dadd x2 FP.dconst1))) (w_58 : vf_n64 (FP.dmul (FP.ddiv (FP.dsub x2 FP.dconst1) (FP.dadd x2 FP.dconst1)) (FP.ddiv (FP.dsub x2 FP.dconst1) (FP.dadd x2 FP.dconst1)))) (k : xw G m_Model_logarithm F L bc bs pr px 68 [none, none, none, none, some (.int x4), some (.double (FP.ddiv (FP.dsub x2 FP.dconst1) (FP.dadd x2 FP.dconst1))), none, some (.double (FP.dmul (FP.ddiv (FP.dsub x2 FP.dconst1) (FP.dadd x2 FP.dconst1)) (FP.ddiv (FP.dsub x2 FP.dconst1) (FP.dadd x2 FP.dconst1)))), none, some (.double FP.dconst0), none, some (.int 19)] [] h) : xw G m_Model_logarithm F L bc bs pr px 45 [none, none, some (.double x2), none, some (.int x4), none, none, none, none, none, none, none] [] h := by
  refine x_dload_n d_Model_logarithm_45 rfl rfl ?_
  refine x_dconst1 d_Model_logarithm_46 ?_
  refine x_dsub d_Model_logarithm_47 w_47 ?_
  refine x_dload_n d_Model_logarithm_48 rfl rfl ?_
  refine x_dconst1 d_Model_logarithm_49 ?_
  refine x_dadd d_Model_logarithm_50 w_50 ?_
  refine x_ddiv d_Model_logarithm_51 w_51 ?_
  refine x_dstore d_Model_logarithm_52 (by decide) rfl ?_
  show xw G m_Model_logarithm F L bc bs pr px 54 [none, none, some (.double x2), none, some (.int x4), some (.double (FP.ddiv (FP.dsub x2 FP.dconst1) (FP.dadd x2 FP.dconst1))), none, none, none, none, none, none] [] h
  refine x_dload d_Model_logarithm_54 rfl ?_
  refine x_dload d_Model_logarithm_56 rfl ?_
  refine x_dmul d_Model_logarithm_58 w_58 ?_
  refine x_dstore d_Model_logarithm_59 (by decide) trivial ?_
  show xw G m_Model_logarithm F L bc bs pr px 61 [none, none, some (.double x2), none, some (.int x4), some (.double (FP.ddiv (FP.dsub x2 FP.dconst1) (FP.dadd x2 FP.dconst1))), none, some (.double (FP.dmul (FP.ddiv (FP.dsub x2 FP.dconst1) (FP.dadd x2 FP.dconst1)) (FP.ddiv (FP.dsub x2 FP.dconst1) (FP.dadd x2 FP.dconst1)))), none, none, none, none] [] h
  refine x_dconst0 d_Model_logarithm_61 ?_
  refine x_dstore d_Model_logarithm_62 (by decide) trivial ?_
  show xw G m_Model_logarithm F L bc bs pr px 64 [none, none, some (.double x2), none, some (.int x4), some (.double (FP.ddiv (FP.dsub x2 FP.dconst1) (FP.dadd x2 FP.dconst1))), none, some (.double (FP.dmul (FP.ddiv (FP.dsub x2 FP.dconst1) (FP.dadd x2 FP.dconst1)) (FP.ddiv (FP.dsub x2 FP.dconst1) (FP.dadd x2 FP.dconst1)))), none, some (.double FP.dconst0), none, none] [] h
  refine x_bipush (v := 19) d_Model_logarithm_64 (by decide) ?_
  refine x_istore d_Model_logarithm_66 (by decide) trivial ?_
  show xw G m_Model_logarithm F L bc bs pr px 68 [none, none, some (.double x2), none, some (.int x4), some (.double (FP.ddiv (FP.dsub x2 FP.dconst1) (FP.dadd x2 FP.dconst1))), none, some (.double (FP.dmul (FP.ddiv (FP.dsub x2 FP.dconst1) (FP.dadd x2 FP.dconst1)) (FP.ddiv (FP.dsub x2 FP.dconst1) (FP.dadd x2 FP.dconst1)))), none, some (.double FP.dconst0), none, some (.int 19)] [] h
  exact x_le (lv' := [none, none, none, none, some (.int x4), some (.double (FP.ddiv (FP.dsub x2 FP.dconst1) (FP.dadd x2 FP.dconst1))), none, some (.double (FP.dmul (FP.ddiv (FP.dsub x2 FP.dconst1) (FP.dadd x2 FP.dconst1)) (FP.ddiv (FP.dsub x2 FP.dconst1) (FP.dadd x2 FP.dconst1)))), none, some (.double FP.dconst0), none, some (.int 19)]) (xw_le_n (xw_le_n (xw_le_n (xw_le_n (xw_le_s (xw_le_s (xw_le_n (xw_le_s (xw_le_n (xw_le_s (xw_le_n (xw_le_s xw_le_e)))))))))))) (k)
theorem s_Model_logarithm_68 {G : xw_G} {F L bc bs : Nat} {pr : Option Value → xw_A → Prop} {px : String → xw_A → Prop} {h : xw_A} {x4 : Int32} {x5 : UInt64} {x7 : UInt64} {x9 : UInt64} {x11 : Int32}  (kt : x11 ≤ 0 → xw G m_Model_logarithm F L bc bs pr px 92 [none, none, none, none, some (.int x4), some (.double x5), none, none, none, some (.double x9), none, none] [] h) (kf : ¬ x11 ≤ 0 → xw G m_Model_logarithm F L bc bs pr px 73 [none, none, none, none, some (.int x4), some (.double x5), none, some (.double x7), none, some (.double x9), none, some (.int x11)] [] h) : xw G m_Model_logarithm F L bc bs pr px 68 [none, none, none, none, some (.int x4), some (.double x5), none, some (.double x7), none, some (.double x9), none, some (.int x11)] [] h := by
  refine x_iload d_Model_logarithm_68 rfl ?_
  refine x_if_le (tgt := 92) d_Model_logarithm_70 (by decide) (fun hc => ?_) (fun hc => ?_)
  · exact x_le (lv' := [none, none, none, none, some (.int x4), some (.double x5), none, none, none, some (.double x9), none, none]) (xw_le_n (xw_le_n (xw_le_n (xw_le_n (xw_le_s (xw_le_s (xw_le_n (xw_le_n (xw_le_n (xw_le_s (xw_le_n (xw_le_n xw_le_e)))))))))))) (kt hc)
  · exact kf hc
theorem s_Model_logarithm_73 {G : xw_G} {F L bc bs : Nat} {pr : Option Value → xw_A → Prop} {px : String → xw_A → Prop} {h : xw_A} {x4 : Int32} {x5 : UInt64} {x7 : UInt64} {x9 : UInt64} {x11 : Int32} (w_77 : vf_n64 (FP.dmul x9 x7)) (w_82 : vf_n64 (FP.ddiv FP.dconst1 (FP.i2d x11))) (w_83 : vf_n64 (FP.dadd (FP.dmul x9 x7) (FP.ddiv FP.dconst1 (FP.i2d x11)))) (k : xw G m_Model_logarithm F L bc bs pr px 68 [none, none, none, none, some (.int x4), some (.double x5), none, some (.double x7), none, some (.double (FP.dadd (FP.dmul x9 x7) (FP.ddiv FP.dconst1 (FP.i2d x11)))), none, some (.int (x11 + (-2)))] [] h) : xw G m_Model_logarithm F L bc bs pr px 73 [none, none, none, none, some (.int x4), some (.double x5), none, some (.double x7), none, some (.double x9), none, some (.int x11)] [] h := by
  refine x_dload d_Model_logarithm_73 rfl ?_
  refine x_dload d_Model_logarithm_75 rfl ?_
  refine x_dmul d_Model_logarithm_77 w_77 ?_
  refine x_dconst1 d_Model_logarithm_78 ?_
  refine x_iload d_Model_logarithm_79 rfl ?_
  refine x_i2d d_Model_logarithm_81 ?_
  refine x_ddiv d_Model_logarithm_82 w_82 ?_
  refine x_dadd d_Model_logarithm_83 w_83 ?_
  refine x_dstore d_Model_logarithm_84 (by decide) trivial ?_
  show xw G m_Model_logarithm F L bc bs pr px 86 [none, none, none, none, some (.int x4), some (.double x5), none, some (.double x7), none, some (.double (FP.dadd (FP.dmul x9 x7) (FP.ddiv FP.dconst1 (FP.i2d x11)))), none, some (.int x11)] [] h
  refine x_iinc (v := x11 + (-2)) d_Model_logarithm_86 rfl (by rfl) (by decide) trivial ?_
  show xw G m_Model_logarithm F L bc bs pr px 89 [none, none, none, none, some (.int x4), some (.double x5), none, some (.double x7), none, some (.double (FP.dadd (FP.dmul x9 x7) (FP.ddiv FP.dconst1 (FP.i2d x11)))), none, some (.int (x11 + (-2)))] [] h
  refine x_goto (tgt := 68) d_Model_logarithm_89 (by decide) ?_
  exact k
theorem s_Model_logarithm_92 {G : xw_G} {F L bc bs : Nat} {pr : Option Value → xw_A → Prop} {px : String → xw_A → Prop} {h : xw_A} {x4 : Int32} {x5 : UInt64} {x9 : UInt64} (w_97 : vf_n64 (FP.dmul 4611686018427387904 x5)) (w_100 : vf_n64 (FP.dmul (FP.dmul 4611686018427387904 x5) x9)) (w_107 : vf_n64 (FP.dmul (FP.i2d x4) 4604418534313441775)) (w_108 : vf_n64 (FP.dadd (FP.dmul (FP.dmul 4611686018427387904 x5) x9) (FP.dmul (FP.i2d x4) 4604418534313441775))) (kr : pr (some (.double (FP.dadd (FP.dmul (FP.dmul 4611686018427387904 x5) x9) (FP.dmul (FP.i2d x4) 4604418534313441775)))) h) : xw G m_Model_logarithm F L bc bs pr px 92 [none, none, none, none, some (.int x4), some (.double x5), none, none, none, some (.double x9), none, none] [] h := by
  refine x_ldc2d (v := 4611686018427387904) d_Model_logarithm_92 (by decide +kernel) ?_
  refine x_dload d_Model_logarithm_95 rfl ?_
  refine x_dmul d_Model_logarithm_97 w_97 ?_
  refine x_dload d_Model_logarithm_98 rfl ?_
  refine x_dmul d_Model_logarithm_100 w_100 ?_
  refine x_iload d_Model_logarithm_101 rfl ?_
  refine x_i2d d_Model_logarithm_103 ?_
  refine x_ldc2d (v := 4604418534313441775) d_Model_logarithm_104 (by decide +kernel) ?_
  refine x_dmul d_Model_logarithm_107 w_107 ?_
  refine x_dadd d_Model_logarithm_108 w_108 ?_
  exact x_dret d_Model_logarithm_109 rfl kr
theorem s_Model_wrong_0 {G : xw_G} {F L bc bs : Nat} {pr : Option Value → xw_A → Prop} {px : String → xw_A → Prop} {h : xw_A} {a0 : Nat} {fs_a0 : List Value} {wrongAt_a0 : Int32} (l_a0 : fs_a0.length = 62) (e_a0 : h a0 = some (.inr (11, fs_a0))) (g_a0_wrongAt : fs_a0[(32 : Nat)]? = some (.int wrongAt_a0)) (k : xw G m_Model_wrong F L bc bs pr px 5 [some (.ref a0)] [.int wrongAt_a0, .ref a0] h) : xw G m_Model_wrong F L bc bs pr px 0 [some (.ref a0)] [] h := by
  refine x_aload_n d_Model_wrong_0 rfl rfl ?_
  refine x_aload_n d_Model_wrong_1 rfl rfl ?_
  refine x_get d_Model_wrong_2 f_Model_68 e_a0 g_a0_wrongAt ?_
  exact k
theorem s_Model_wrong_8 {G : xw_G} {F L bc bs : Nat} {pr : Option Value → xw_A → Prop} {px : String → xw_A → Prop} {h : xw_A} {y0 : Int32}  (kr : pr (some (.int y0)) h) : xw G m_Model_wrong F L bc bs pr px 8 [none] [.int y0] h := by
  exact x_iret d_Model_wrong_8 rfl kr
theorem s_Model_clean_0 {G : xw_G} {F L bc bs : Nat} {pr : Option Value → xw_A → Prop} {px : String → xw_A → Prop} {h : xw_A} {a0 : Nat} {x1 : Int32} {fs_a0 : List Value} (l_a0 : fs_a0.length = 62) (e_a0 : h a0 = some (.inr (11, fs_a0))) (kr : pr (some (.int x1)) (xw_up h a0 (.inr (11, (fs_a0.set 0 (.int 0)))))) : xw G m_Model_clean F L bc bs pr px 0 [some (.ref a0), some (.int x1)] [] h := by
  refine x_aload_n d_Model_clean_0 rfl rfl ?_
  refine x_iconst (v := 0) d_Model_clean_1 (by decide) ?_
  refine x_put (ty := .int) d_Model_clean_2 f_Model_130 fw_Model_0.1 fw_Model_0.2 rfl rfl (by simp [l_a0]) e_a0 ?_
  show xw G m_Model_clean F L bc bs pr px 5 [some (.ref a0), some (.int x1)] [] (xw_up h a0 (.inr (11, (fs_a0.set 0 (.int 0)))))
  refine x_iload_n d_Model_clean_5 rfl rfl ?_
  exact x_iret d_Model_clean_6 rfl kr
theorem s_Model_answer_0 {G : xw_G} {F L bc bs : Nat} {pr : Option Value → xw_A → Prop} {px : String → xw_A → Prop} {h : xw_A} {a0 : Nat} {x1 : Int32} {x2 : Int32} {fs_a0 : List Value} {found_a0 : Int32} (l_a0 : fs_a0.length = 62) (e_a0 : h a0 = some (.inr (11, fs_a0))) (g_a0_found : fs_a0[(56 : Nat)]? = some (.int found_a0)) (k : xw G m_Model_answer F L bc bs pr px 14 [some (.ref a0), some (.int x1), some (.int x2)] [.int (found_a0 - 1), .int 0, .int x1, .ref a0] (xw_up h a0 (.inr (11, (fs_a0.set 0 (.int 0)))))) : xw G m_Model_answer F L bc bs pr px 0 [some (.ref a0), some (.int x1), some (.int x2)] [] h := by
  refine x_aload_n d_Model_answer_0 rfl rfl ?_
  refine x_iconst (v := 0) d_Model_answer_1 (by decide) ?_
  refine x_put (ty := .int) d_Model_answer_2 f_Model_130 fw_Model_0.1 fw_Model_0.2 rfl rfl (by simp [l_a0]) e_a0 ?_
  show xw G m_Model_answer F L bc bs pr px 5 [some (.ref a0), some (.int x1), some (.int x2)] [] (xw_up h a0 (.inr (11, (fs_a0.set 0 (.int 0)))))
  refine x_aload_n d_Model_answer_5 rfl rfl ?_
  refine x_iload_n d_Model_answer_6 rfl rfl ?_
  refine x_iconst (v := 0) d_Model_answer_7 (by decide) ?_
  refine x_aload_n d_Model_answer_8 rfl rfl ?_
  refine x_get d_Model_answer_9 f_Model_360 (xw_up_s _ _ _) (xw_gn (by decide) g_a0_found) ?_
  refine x_iconst (v := 1) d_Model_answer_12 (by decide) ?_
  refine x_isub d_Model_answer_13 ?_
  exact k
theorem s_Model_answer_17 {G : xw_G} {F L bc bs : Nat} {pr : Option Value → xw_A → Prop} {px : String → xw_A → Prop} {h : xw_A} {a0 : Nat} {x1 : Int32} {x2 : Int32} {y0 : Int32}  (kt : ¬ y0 = 0 → xw G m_Model_answer F L bc bs pr px 24 [some (.ref a0), some (.int x1), some (.int x2)] [.ref a0] h) (kf : y0 = 0 → xw G m_Model_answer F L bc bs pr px 20 [some (.ref a0), some (.int x1), some (.int x2)] [.ref a0] h) : xw G m_Model_answer F L bc bs pr px 17 [some (.ref a0), some (.int x1), some (.int x2)] [.int y0, .ref a0] h := by
  refine x_if_ne (tgt := 24) d_Model_answer_17 (by decide) (fun hc => ?_) (fun hc => ?_)
  · exact kt hc
  · exact kf hc
theorem s_Model_answer_20 {G : xw_G} {F L bc bs : Nat} {pr : Option Value → xw_A → Prop} {px : String → xw_A → Prop} {h : xw_A} {a0 : Nat} {x1 : Int32} {x2 : Int32}  (k : xw G m_Model_answer F L bc bs pr px 25 [some (.ref a0), some (.int x1), some (.int x2)] [.int 1, .ref a0] h) : xw G m_Model_answer F L bc bs pr px 20 [some (.ref a0), some (.int x1), some (.int x2)] [.ref a0] h := by
  refine x_iconst (v := 1) d_Model_answer_20 (by decide) ?_
  refine x_goto (tgt := 25) d_Model_answer_21 (by decide) ?_
  exact k
theorem s_Model_answer_24 {G : xw_G} {F L bc bs : Nat} {pr : Option Value → xw_A → Prop} {px : String → xw_A → Prop} {h : xw_A} {a0 : Nat} {x1 : Int32} {x2 : Int32}  (k : xw G m_Model_answer F L bc bs pr px 25 [some (.ref a0), some (.int x1), some (.int x2)] [.int 0, .ref a0] h) : xw G m_Model_answer F L bc bs pr px 24 [some (.ref a0), some (.int x1), some (.int x2)] [.ref a0] h := by
  refine x_iconst (v := 0) d_Model_answer_24 (by decide) ?_
  exact k
theorem s_Model_answer_25 {G : xw_G} {F L bc bs : Nat} {pr : Option Value → xw_A → Prop} {px : String → xw_A → Prop} {h : xw_A} {a0 : Nat} {x1 : Int32} {x2 : Int32} {y0 : Int32}  (k : xw G m_Model_answer F L bc bs pr px 26 [some (.ref a0), some (.int x1), some (.int x2)] [.int 1, .int y0, .ref a0] h) : xw G m_Model_answer F L bc bs pr px 25 [some (.ref a0), some (.int x1), some (.int x2)] [.int y0, .ref a0] h := by
  refine x_iconst (v := 1) d_Model_answer_25 (by decide) ?_
  exact k
theorem s_Model_answer_29 {G : xw_G} {F L bc bs : Nat} {pr : Option Value → xw_A → Prop} {px : String → xw_A → Prop} {h : xw_A} {a0 : Nat} {x1 : Int32} {x2 : Int32} {y0 : Int32}  (kt : y0 = 0 → xw G m_Model_answer F L bc bs pr px 34 [some (.ref a0), some (.int x1), some (.int x2)] [] h) (kf : ¬ y0 = 0 → xw G m_Model_answer F L bc bs pr px 32 [none, none, none] [] h) : xw G m_Model_answer F L bc bs pr px 29 [some (.ref a0), some (.int x1), some (.int x2)] [.int y0] h := by
  refine x_if_eq (tgt := 34) d_Model_answer_29 (by decide) (fun hc => ?_) (fun hc => ?_)
  · exact kt hc
  · exact x_le (lv' := [none, none, none]) (xw_le_n (xw_le_n (xw_le_n xw_le_e))) (kf hc)
theorem s_Model_answer_32 {G : xw_G} {F L bc bs : Nat} {pr : Option Value → xw_A → Prop} {px : String → xw_A → Prop} {h : xw_A}   (kr : pr (some (.int 0)) h) : xw G m_Model_answer F L bc bs pr px 32 [none, none, none] [] h := by
  refine x_iconst (v := 0) d_Model_answer_32 (by decide) ?_
  exact x_iret d_Model_answer_33 rfl kr
theorem s_Model_answer_34 {G : xw_G} {F L bc bs : Nat} {pr : Option Value → xw_A → Prop} {px : String → xw_A → Prop} {h : xw_A} {a0 : Nat} {x1 : Int32} {x2 : Int32} {fs_a0 : List Value} {answers_a0 : Option Nat} (l_a0 : fs_a0.length = 62) (e_a0 : h a0 = some (.inr (11, fs_a0))) (g_a0_answers : fs_a0[(58 : Nat)]? = some (va_rf answers_a0)) (kt : x2 = 0 → xw G m_Model_answer F L bc bs pr px 51 [none, some (.int x1), none] [va_rf answers_a0] h) (kf : ¬ x2 = 0 → xw G m_Model_answer F L bc bs pr px 42 [some (.ref a0), some (.int x1), none] [va_rf answers_a0] h) : xw G m_Model_answer F L bc bs pr px 34 [some (.ref a0), some (.int x1), some (.int x2)] [] h := by
  refine x_aload_n d_Model_answer_34 rfl rfl ?_
  refine x_get d_Model_answer_35 f_Model_120 e_a0 g_a0_answers ?_
  refine x_iload_n d_Model_answer_38 rfl rfl ?_
  refine x_if_eq (tgt := 51) d_Model_answer_39 (by decide) (fun hc => ?_) (fun hc => ?_)
  · exact x_le (lv' := [none, some (.int x1), none]) (xw_le_n (xw_le_s (xw_le_n xw_le_e))) (kt hc)
  · exact x_le (lv' := [some (.ref a0), some (.int x1), none]) (xw_le_s (xw_le_s (xw_le_n xw_le_e))) (kf hc)
theorem s_Model_answer_42 {G : xw_G} {F L bc bs : Nat} {pr : Option Value → xw_A → Prop} {px : String → xw_A → Prop} {h : xw_A} {a0 : Nat} {x1 : Int32} {b0 : Nat} {fs_a0 : List Value} {order_a0 : Nat} {n_order_a0 : Nat} {f_order_a0 : Nat → Int32} (l_a0 : fs_a0.length = 62) (e_a0 : h a0 = some (.inr (11, fs_a0))) (g_a0_order : fs_a0[(59 : Nat)]? = some (.ref order_a0)) (e_order_a0 : h order_a0 = some (.inl (0, n_order_a0, .inl f_order_a0))) (i_47 : vp_in x1 n_order_a0) (k : xw G m_Model_answer F L bc bs pr px 52 [none, none, none] [.int (f_order_a0 x1.toNatClampNeg), .ref b0] h) : xw G m_Model_answer F L bc bs pr px 42 [some (.ref a0), some (.int x1), none] [.ref b0] h := by
  refine x_aload_n d_Model_answer_42 rfl rfl ?_
  refine x_get d_Model_answer_43 f_Model_123 e_a0 g_a0_order ?_
  refine x_iload_n d_Model_answer_46 rfl rfl ?_
  refine x_iald d_Model_answer_47 e_order_a0 i_47 ?_
  refine x_goto (tgt := 52) d_Model_answer_48 (by decide) ?_
  exact x_le (lv' := [none, none, none]) (xw_le_n (xw_le_n (xw_le_n xw_le_e))) (k)
theorem s_Model_answer_51 {G : xw_G} {F L bc bs : Nat} {pr : Option Value → xw_A → Prop} {px : String → xw_A → Prop} {h : xw_A} {x1 : Int32} {b0 : Nat}  (k : xw G m_Model_answer F L bc bs pr px 52 [none, none, none] [.int x1, .ref b0] h) : xw G m_Model_answer F L bc bs pr px 51 [none, some (.int x1), none] [.ref b0] h := by
  refine x_iload_n d_Model_answer_51 rfl rfl ?_
  exact x_le (lv' := [none, none, none]) (xw_le_n (xw_le_n (xw_le_n xw_le_e))) (k)
theorem s_Model_answer_52 {G : xw_G} {F L bc bs : Nat} {pr : Option Value → xw_A → Prop} {px : String → xw_A → Prop} {h : xw_A} {y0 : Int32} {b1 : Nat} {n_b1 : Nat} {f_b1 : Nat → Int32} (e_b1 : h b1 = some (.inl (0, n_b1, .inl f_b1))) (i_52 : vp_in y0 n_b1) (kr : pr (some (.int (f_b1 y0.toNatClampNeg))) h) : xw G m_Model_answer F L bc bs pr px 52 [none, none, none] [.int y0, .ref b1] h := by
  refine x_iald d_Model_answer_52 e_b1 i_52 ?_
  exact x_iret d_Model_answer_53 rfl kr
theorem s_Model_score_0 {G : xw_G} {F L bc bs : Nat} {pr : Option Value → xw_A → Prop} {px : String → xw_A → Prop} {h : xw_A} {a0 : Nat} {x1 : Int32} {x2 : Int32} {fs_a0 : List Value} {found_a0 : Int32} (l_a0 : fs_a0.length = 62) (e_a0 : h a0 = some (.inr (11, fs_a0))) (g_a0_found : fs_a0[(56 : Nat)]? = some (.int found_a0)) (k : xw G m_Model_score F L bc bs pr px 14 [some (.ref a0), some (.int x1), some (.int x2)] [.int (found_a0 - 1), .int 0, .int x1, .ref a0] (xw_up h a0 (.inr (11, (fs_a0.set 0 (.int 0)))))) : xw G m_Model_score F L bc bs pr px 0 [some (.ref a0), some (.int x1), some (.int x2)] [] h := by
  refine x_aload_n d_Model_score_0 rfl rfl ?_
  refine x_iconst (v := 0) d_Model_score_1 (by decide) ?_
  refine x_put (ty := .int) d_Model_score_2 f_Model_130 fw_Model_0.1 fw_Model_0.2 rfl rfl (by simp [l_a0]) e_a0 ?_
  show xw G m_Model_score F L bc bs pr px 5 [some (.ref a0), some (.int x1), some (.int x2)] [] (xw_up h a0 (.inr (11, (fs_a0.set 0 (.int 0)))))
  refine x_aload_n d_Model_score_5 rfl rfl ?_
  refine x_iload_n d_Model_score_6 rfl rfl ?_
  refine x_iconst (v := 0) d_Model_score_7 (by decide) ?_
  refine x_aload_n d_Model_score_8 rfl rfl ?_
  refine x_get d_Model_score_9 f_Model_360 (xw_up_s _ _ _) (xw_gn (by decide) g_a0_found) ?_
  refine x_iconst (v := 1) d_Model_score_12 (by decide) ?_
  refine x_isub d_Model_score_13 ?_
  exact k
theorem s_Model_score_17 {G : xw_G} {F L bc bs : Nat} {pr : Option Value → xw_A → Prop} {px : String → xw_A → Prop} {h : xw_A} {a0 : Nat} {x1 : Int32} {x2 : Int32} {y0 : Int32}  (kt : ¬ y0 = 0 → xw G m_Model_score F L bc bs pr px 24 [some (.ref a0), some (.int x1), some (.int x2)] [.ref a0] h) (kf : y0 = 0 → xw G m_Model_score F L bc bs pr px 20 [some (.ref a0), some (.int x1), some (.int x2)] [.ref a0] h) : xw G m_Model_score F L bc bs pr px 17 [some (.ref a0), some (.int x1), some (.int x2)] [.int y0, .ref a0] h := by
  refine x_if_ne (tgt := 24) d_Model_score_17 (by decide) (fun hc => ?_) (fun hc => ?_)
  · exact kt hc
  · exact kf hc
theorem s_Model_score_20 {G : xw_G} {F L bc bs : Nat} {pr : Option Value → xw_A → Prop} {px : String → xw_A → Prop} {h : xw_A} {a0 : Nat} {x1 : Int32} {x2 : Int32}  (k : xw G m_Model_score F L bc bs pr px 25 [some (.ref a0), some (.int x1), some (.int x2)] [.int 1, .ref a0] h) : xw G m_Model_score F L bc bs pr px 20 [some (.ref a0), some (.int x1), some (.int x2)] [.ref a0] h := by
  refine x_iconst (v := 1) d_Model_score_20 (by decide) ?_
  refine x_goto (tgt := 25) d_Model_score_21 (by decide) ?_
  exact k
theorem s_Model_score_24 {G : xw_G} {F L bc bs : Nat} {pr : Option Value → xw_A → Prop} {px : String → xw_A → Prop} {h : xw_A} {a0 : Nat} {x1 : Int32} {x2 : Int32}  (k : xw G m_Model_score F L bc bs pr px 25 [some (.ref a0), some (.int x1), some (.int x2)] [.int 0, .ref a0] h) : xw G m_Model_score F L bc bs pr px 24 [some (.ref a0), some (.int x1), some (.int x2)] [.ref a0] h := by
  refine x_iconst (v := 0) d_Model_score_24 (by decide) ?_
  exact k
theorem s_Model_score_25 {G : xw_G} {F L bc bs : Nat} {pr : Option Value → xw_A → Prop} {px : String → xw_A → Prop} {h : xw_A} {a0 : Nat} {x1 : Int32} {x2 : Int32} {y0 : Int32}  (k : xw G m_Model_score F L bc bs pr px 26 [some (.ref a0), some (.int x1), some (.int x2)] [.int 1, .int y0, .ref a0] h) : xw G m_Model_score F L bc bs pr px 25 [some (.ref a0), some (.int x1), some (.int x2)] [.int y0, .ref a0] h := by
  refine x_iconst (v := 1) d_Model_score_25 (by decide) ?_
  exact k
theorem s_Model_score_29 {G : xw_G} {F L bc bs : Nat} {pr : Option Value → xw_A → Prop} {px : String → xw_A → Prop} {h : xw_A} {a0 : Nat} {x1 : Int32} {x2 : Int32} {y0 : Int32}  (kt : y0 = 0 → xw G m_Model_score F L bc bs pr px 34 [some (.ref a0), some (.int x1), some (.int x2)] [] h) (kf : ¬ y0 = 0 → xw G m_Model_score F L bc bs pr px 32 [none, none, none] [] h) : xw G m_Model_score F L bc bs pr px 29 [some (.ref a0), some (.int x1), some (.int x2)] [.int y0] h := by
  refine x_if_eq (tgt := 34) d_Model_score_29 (by decide) (fun hc => ?_) (fun hc => ?_)
  · exact kt hc
  · exact x_le (lv' := [none, none, none]) (xw_le_n (xw_le_n (xw_le_n xw_le_e))) (kf hc)
theorem s_Model_score_32 {G : xw_G} {F L bc bs : Nat} {pr : Option Value → xw_A → Prop} {px : String → xw_A → Prop} {h : xw_A}   (kr : pr (some (.double FP.dconst0)) h) : xw G m_Model_score F L bc bs pr px 32 [none, none, none] [] h := by
  refine x_dconst0 d_Model_score_32 ?_
  exact x_dret d_Model_score_33 rfl kr
theorem s_Model_score_34 {G : xw_G} {F L bc bs : Nat} {pr : Option Value → xw_A → Prop} {px : String → xw_A → Prop} {h : xw_A} {a0 : Nat} {x1 : Int32} {x2 : Int32} {fs_a0 : List Value} {scores_a0 : Option Nat} (l_a0 : fs_a0.length = 62) (e_a0 : h a0 = some (.inr (11, fs_a0))) (g_a0_scores : fs_a0[(60 : Nat)]? = some (va_rf scores_a0)) (kt : x2 = 0 → xw G m_Model_score F L bc bs pr px 51 [none, some (.int x1), none] [va_rf scores_a0] h) (kf : ¬ x2 = 0 → xw G m_Model_score F L bc bs pr px 42 [some (.ref a0), some (.int x1), none] [va_rf scores_a0] h) : xw G m_Model_score F L bc bs pr px 34 [some (.ref a0), some (.int x1), some (.int x2)] [] h := by
  refine x_aload_n d_Model_score_34 rfl rfl ?_
  refine x_get d_Model_score_35 f_Model_126 e_a0 g_a0_scores ?_
  refine x_iload_n d_Model_score_38 rfl rfl ?_
  refine x_if_eq (tgt := 51) d_Model_score_39 (by decide) (fun hc => ?_) (fun hc => ?_)
  · exact x_le (lv' := [none, some (.int x1), none]) (xw_le_n (xw_le_s (xw_le_n xw_le_e))) (kt hc)
  · exact x_le (lv' := [some (.ref a0), some (.int x1), none]) (xw_le_s (xw_le_s (xw_le_n xw_le_e))) (kf hc)
theorem s_Model_score_42 {G : xw_G} {F L bc bs : Nat} {pr : Option Value → xw_A → Prop} {px : String → xw_A → Prop} {h : xw_A} {a0 : Nat} {x1 : Int32} {b0 : Nat} {fs_a0 : List Value} {order_a0 : Nat} {n_order_a0 : Nat} {f_order_a0 : Nat → Int32} (l_a0 : fs_a0.length = 62) (e_a0 : h a0 = some (.inr (11, fs_a0))) (g_a0_order : fs_a0[(59 : Nat)]? = some (.ref order_a0)) (e_order_a0 : h order_a0 = some (.inl (0, n_order_a0, .inl f_order_a0))) (i_47 : vp_in x1 n_order_a0) (k : xw G m_Model_score F L bc bs pr px 52 [none, none, none] [.int (f_order_a0 x1.toNatClampNeg), .ref b0] h) : xw G m_Model_score F L bc bs pr px 42 [some (.ref a0), some (.int x1), none] [.ref b0] h := by
  refine x_aload_n d_Model_score_42 rfl rfl ?_
  refine x_get d_Model_score_43 f_Model_123 e_a0 g_a0_order ?_
  refine x_iload_n d_Model_score_46 rfl rfl ?_
  refine x_iald d_Model_score_47 e_order_a0 i_47 ?_
  refine x_goto (tgt := 52) d_Model_score_48 (by decide) ?_
  exact x_le (lv' := [none, none, none]) (xw_le_n (xw_le_n (xw_le_n xw_le_e))) (k)
theorem s_Model_score_51 {G : xw_G} {F L bc bs : Nat} {pr : Option Value → xw_A → Prop} {px : String → xw_A → Prop} {h : xw_A} {x1 : Int32} {b0 : Nat}  (k : xw G m_Model_score F L bc bs pr px 52 [none, none, none] [.int x1, .ref b0] h) : xw G m_Model_score F L bc bs pr px 51 [none, some (.int x1), none] [.ref b0] h := by
  refine x_iload_n d_Model_score_51 rfl rfl ?_
  exact x_le (lv' := [none, none, none]) (xw_le_n (xw_le_n (xw_le_n xw_le_e))) (k)
theorem s_Model_score_52 {G : xw_G} {F L bc bs : Nat} {pr : Option Value → xw_A → Prop} {px : String → xw_A → Prop} {h : xw_A} {y0 : Int32} {b1 : Nat} {n_b1 : Nat} {f_b1 : Nat → UInt64} (e_b1 : h b1 = some (.inl (3, n_b1, .inr (.inr (.inr (.inl f_b1)))))) (i_52 : vp_in y0 n_b1) (kr : pr (some (.double (f_b1 y0.toNatClampNeg))) h) : xw G m_Model_score F L bc bs pr px 52 [none, none, none] [.int y0, .ref b1] h := by
  refine x_dald d_Model_score_52 e_b1 i_52 ?_
  exact x_dret d_Model_score_53 rfl kr
theorem s_Model_look_0 {G : xw_G} {F L bc bs : Nat} {pr : Option Value → xw_A → Prop} {px : String → xw_A → Prop} {h : xw_A} {a0 : Nat} {x1 : Int32} {x2 : Int32} {fs_a0 : List Value} (l_a0 : fs_a0.length = 62) (e_a0 : h a0 = some (.inr (11, fs_a0))) (k : xw G m_Model_look F L bc bs pr px 8 [some (.ref a0), some (.int x1), some (.int x2)] [.int x1, .ref a0, .ref a0] (xw_up h a0 (.inr (11, (fs_a0.set 0 (.int 0)))))) : xw G m_Model_look F L bc bs pr px 0 [some (.ref a0), some (.int x1), some (.int x2)] [] h := by
  refine x_aload_n d_Model_look_0 rfl rfl ?_
  refine x_iconst (v := 0) d_Model_look_1 (by decide) ?_
  refine x_put (ty := .int) d_Model_look_2 f_Model_130 fw_Model_0.1 fw_Model_0.2 rfl rfl (by simp [l_a0]) e_a0 ?_
  show xw G m_Model_look F L bc bs pr px 5 [some (.ref a0), some (.int x1), some (.int x2)] [] (xw_up h a0 (.inr (11, (fs_a0.set 0 (.int 0)))))
  refine x_aload_n d_Model_look_5 rfl rfl ?_
  refine x_aload_n d_Model_look_6 rfl rfl ?_
  refine x_iload_n d_Model_look_7 rfl rfl ?_
  exact k
theorem s_Model_look_11 {G : xw_G} {F L bc bs : Nat} {pr : Option Value → xw_A → Prop} {px : String → xw_A → Prop} {h : xw_A} {a0 : Nat} {x1 : Int32} {x2 : Int32} {y0 : Int32}  (kt : ¬ y0 = 0 → xw G m_Model_look F L bc bs pr px 18 [some (.ref a0), some (.int x1), some (.int x2)] [.ref a0] h) (kf : y0 = 0 → xw G m_Model_look F L bc bs pr px 14 [some (.ref a0), some (.int x1), some (.int x2)] [.ref a0] h) : xw G m_Model_look F L bc bs pr px 11 [some (.ref a0), some (.int x1), some (.int x2)] [.int y0, .ref a0] h := by
  refine x_if_ne (tgt := 18) d_Model_look_11 (by decide) (fun hc => ?_) (fun hc => ?_)
  · exact kt hc
  · exact kf hc
theorem s_Model_look_14 {G : xw_G} {F L bc bs : Nat} {pr : Option Value → xw_A → Prop} {px : String → xw_A → Prop} {h : xw_A} {a0 : Nat} {x1 : Int32} {x2 : Int32}  (k : xw G m_Model_look F L bc bs pr px 19 [some (.ref a0), some (.int x1), some (.int x2)] [.int 1, .ref a0] h) : xw G m_Model_look F L bc bs pr px 14 [some (.ref a0), some (.int x1), some (.int x2)] [.ref a0] h := by
  refine x_iconst (v := 1) d_Model_look_14 (by decide) ?_
  refine x_goto (tgt := 19) d_Model_look_15 (by decide) ?_
  exact k
theorem s_Model_look_18 {G : xw_G} {F L bc bs : Nat} {pr : Option Value → xw_A → Prop} {px : String → xw_A → Prop} {h : xw_A} {a0 : Nat} {x1 : Int32} {x2 : Int32}  (k : xw G m_Model_look F L bc bs pr px 19 [some (.ref a0), some (.int x1), some (.int x2)] [.int 0, .ref a0] h) : xw G m_Model_look F L bc bs pr px 18 [some (.ref a0), some (.int x1), some (.int x2)] [.ref a0] h := by
  refine x_iconst (v := 0) d_Model_look_18 (by decide) ?_
  exact k
theorem s_Model_look_19 {G : xw_G} {F L bc bs : Nat} {pr : Option Value → xw_A → Prop} {px : String → xw_A → Prop} {h : xw_A} {a0 : Nat} {x1 : Int32} {x2 : Int32} {y0 : Int32}  (k : xw G m_Model_look F L bc bs pr px 20 [some (.ref a0), some (.int x1), some (.int x2)] [.int 1, .int y0, .ref a0] h) : xw G m_Model_look F L bc bs pr px 19 [some (.ref a0), some (.int x1), some (.int x2)] [.int y0, .ref a0] h := by
  refine x_iconst (v := 1) d_Model_look_19 (by decide) ?_
  exact k
theorem s_Model_look_23 {G : xw_G} {F L bc bs : Nat} {pr : Option Value → xw_A → Prop} {px : String → xw_A → Prop} {h : xw_A} {a0 : Nat} {x1 : Int32} {x2 : Int32} {y0 : Int32}  (kt : ¬ y0 = 0 → xw G m_Model_look F L bc bs pr px 48 [none, none, none] [] h) (kf : y0 = 0 → xw G m_Model_look F L bc bs pr px 26 [some (.ref a0), some (.int x1), some (.int x2)] [] h) : xw G m_Model_look F L bc bs pr px 23 [some (.ref a0), some (.int x1), some (.int x2)] [.int y0] h := by
  refine x_if_ne (tgt := 48) d_Model_look_23 (by decide) (fun hc => ?_) (fun hc => ?_)
  · exact x_le (lv' := [none, none, none]) (xw_le_n (xw_le_n (xw_le_n xw_le_e))) (kt hc)
  · exact kf hc
theorem s_Model_look_26 {G : xw_G} {F L bc bs : Nat} {pr : Option Value → xw_A → Prop} {px : String → xw_A → Prop} {h : xw_A} {a0 : Nat} {x1 : Int32} {x2 : Int32}  (k : xw G m_Model_look F L bc bs pr px 30 [some (.ref a0), some (.int x1), some (.int x2)] [.int 2, .int 0, .int x2, .ref a0] h) : xw G m_Model_look F L bc bs pr px 26 [some (.ref a0), some (.int x1), some (.int x2)] [] h := by
  refine x_aload_n d_Model_look_26 rfl rfl ?_
  refine x_iload_n d_Model_look_27 rfl rfl ?_
  refine x_iconst (v := 0) d_Model_look_28 (by decide) ?_
  refine x_iconst (v := 2) d_Model_look_29 (by decide) ?_
  exact k
theorem s_Model_look_33 {G : xw_G} {F L bc bs : Nat} {pr : Option Value → xw_A → Prop} {px : String → xw_A → Prop} {h : xw_A} {a0 : Nat} {x1 : Int32} {x2 : Int32} {y0 : Int32}  (kt : ¬ y0 = 0 → xw G m_Model_look F L bc bs pr px 40 [some (.ref a0), some (.int x1), some (.int x2)] [.ref a0] h) (kf : y0 = 0 → xw G m_Model_look F L bc bs pr px 36 [some (.ref a0), some (.int x1), some (.int x2)] [.ref a0] h) : xw G m_Model_look F L bc bs pr px 33 [some (.ref a0), some (.int x1), some (.int x2)] [.int y0, .ref a0] h := by
  refine x_if_ne (tgt := 40) d_Model_look_33 (by decide) (fun hc => ?_) (fun hc => ?_)
  · exact kt hc
  · exact kf hc
theorem s_Model_look_36 {G : xw_G} {F L bc bs : Nat} {pr : Option Value → xw_A → Prop} {px : String → xw_A → Prop} {h : xw_A} {a0 : Nat} {x1 : Int32} {x2 : Int32}  (k : xw G m_Model_look F L bc bs pr px 41 [some (.ref a0), some (.int x1), some (.int x2)] [.int 1, .ref a0] h) : xw G m_Model_look F L bc bs pr px 36 [some (.ref a0), some (.int x1), some (.int x2)] [.ref a0] h := by
  refine x_iconst (v := 1) d_Model_look_36 (by decide) ?_
  refine x_goto (tgt := 41) d_Model_look_37 (by decide) ?_
  exact k
theorem s_Model_look_40 {G : xw_G} {F L bc bs : Nat} {pr : Option Value → xw_A → Prop} {px : String → xw_A → Prop} {h : xw_A} {a0 : Nat} {x1 : Int32} {x2 : Int32}  (k : xw G m_Model_look F L bc bs pr px 41 [some (.ref a0), some (.int x1), some (.int x2)] [.int 0, .ref a0] h) : xw G m_Model_look F L bc bs pr px 40 [some (.ref a0), some (.int x1), some (.int x2)] [.ref a0] h := by
  refine x_iconst (v := 0) d_Model_look_40 (by decide) ?_
  exact k
theorem s_Model_look_41 {G : xw_G} {F L bc bs : Nat} {pr : Option Value → xw_A → Prop} {px : String → xw_A → Prop} {h : xw_A} {a0 : Nat} {x1 : Int32} {x2 : Int32} {y0 : Int32}  (k : xw G m_Model_look F L bc bs pr px 42 [some (.ref a0), some (.int x1), some (.int x2)] [.int 2, .int y0, .ref a0] h) : xw G m_Model_look F L bc bs pr px 41 [some (.ref a0), some (.int x1), some (.int x2)] [.int y0, .ref a0] h := by
  refine x_iconst (v := 2) d_Model_look_41 (by decide) ?_
  exact k
theorem s_Model_look_45 {G : xw_G} {F L bc bs : Nat} {pr : Option Value → xw_A → Prop} {px : String → xw_A → Prop} {h : xw_A} {a0 : Nat} {x1 : Int32} {x2 : Int32} {y0 : Int32}  (kt : y0 = 0 → xw G m_Model_look F L bc bs pr px 50 [some (.ref a0), some (.int x1), some (.int x2)] [] h) (kf : ¬ y0 = 0 → xw G m_Model_look F L bc bs pr px 48 [none, none, none] [] h) : xw G m_Model_look F L bc bs pr px 45 [some (.ref a0), some (.int x1), some (.int x2)] [.int y0] h := by
  refine x_if_eq (tgt := 50) d_Model_look_45 (by decide) (fun hc => ?_) (fun hc => ?_)
  · exact kt hc
  · exact x_le (lv' := [none, none, none]) (xw_le_n (xw_le_n (xw_le_n xw_le_e))) (kf hc)
theorem s_Model_look_48 {G : xw_G} {F L bc bs : Nat} {pr : Option Value → xw_A → Prop} {px : String → xw_A → Prop} {h : xw_A}   (kr : pr (some (.int 0)) h) : xw G m_Model_look F L bc bs pr px 48 [none, none, none] [] h := by
  refine x_iconst (v := 0) d_Model_look_48 (by decide) ?_
  exact x_iret d_Model_look_49 rfl kr
theorem s_Model_look_50 {G : xw_G} {F L bc bs : Nat} {pr : Option Value → xw_A → Prop} {px : String → xw_A → Prop} {h : xw_A} {a0 : Nat} {x1 : Int32} {x2 : Int32}  (kt : ¬ x2 = 2 → xw G m_Model_look F L bc bs pr px 69 [some (.ref a0), some (.int x1), some (.int x2)] [] h) (kf : x2 = 2 → xw G m_Model_look F L bc bs pr px 55 [some (.ref a0), some (.int x1), none] [] h) : xw G m_Model_look F L bc bs pr px 50 [some (.ref a0), some (.int x1), some (.int x2)] [] h := by
  refine x_iload_n d_Model_look_50 rfl rfl ?_
  refine x_iconst (v := 2) d_Model_look_51 (by decide) ?_
  refine x_icmp_ne (tgt := 69) d_Model_look_52 (by decide) (fun hc => ?_) (fun hc => ?_)
  · exact kt hc
  · exact x_le (lv' := [some (.ref a0), some (.int x1), none]) (xw_le_s (xw_le_s (xw_le_n xw_le_e))) (kf hc)
theorem s_Model_look_55 {G : xw_G} {F L bc bs : Nat} {pr : Option Value → xw_A → Prop} {px : String → xw_A → Prop} {h : xw_A} {a0 : Nat} {x1 : Int32} {fs_a0 : List Value} {entries_a0 : Nat} {live_a0 : Nat} {n_live_a0 : Nat} {f_live_a0 : Nat → Int32} {n_entries_a0 : Nat} {f_entries_a0 : Nat → Int32} (l_a0 : fs_a0.length = 62) (e_a0 : h a0 = some (.inr (11, fs_a0))) (g_a0_entries : fs_a0[(12 : Nat)]? = some (.ref entries_a0)) (g_a0_live : fs_a0[(14 : Nat)]? = some (.ref live_a0)) (e_live_a0 : h live_a0 = some (.inl (0, n_live_a0, .inl f_live_a0))) (i_66 : vp_in (x1 - 1) n_live_a0) (e_entries_a0 : h entries_a0 = some (.inl (0, n_entries_a0, .inl f_entries_a0))) (i_67 : vp_in (f_live_a0 (x1 - 1).toNatClampNeg) n_entries_a0) (kr : pr (some (.int (f_entries_a0 (f_live_a0 (x1 - 1).toNatClampNeg).toNatClampNeg))) h) : xw G m_Model_look F L bc bs pr px 55 [some (.ref a0), some (.int x1), none] [] h := by
  refine x_aload_n d_Model_look_55 rfl rfl ?_
  refine x_get d_Model_look_56 f_Model_38 e_a0 g_a0_entries ?_
  refine x_aload_n d_Model_look_59 rfl rfl ?_
  refine x_get d_Model_look_60 f_Model_44 e_a0 g_a0_live ?_
  refine x_iload_n d_Model_look_63 rfl rfl ?_
  refine x_iconst (v := 1) d_Model_look_64 (by decide) ?_
  refine x_isub d_Model_look_65 ?_
  refine x_iald d_Model_look_66 e_live_a0 i_66 ?_
  refine x_iald d_Model_look_67 e_entries_a0 i_67 ?_
  exact x_iret d_Model_look_68 rfl kr
theorem s_Model_look_69 {G : xw_G} {F L bc bs : Nat} {pr : Option Value → xw_A → Prop} {px : String → xw_A → Prop} {h : xw_A} {a0 : Nat} {x1 : Int32} {x2 : Int32}  (k : xw G m_Model_look F L bc bs pr px 74 [some (.ref a0), some (.int x1), some (.int x2)] [.int x2, .int (x1 - 1), .ref a0] h) : xw G m_Model_look F L bc bs pr px 69 [some (.ref a0), some (.int x1), some (.int x2)] [] h := by
  refine x_aload_n d_Model_look_69 rfl rfl ?_
  refine x_iload_n d_Model_look_70 rfl rfl ?_
  refine x_iconst (v := 1) d_Model_look_71 (by decide) ?_
  refine x_isub d_Model_look_72 ?_
  refine x_iload_n d_Model_look_73 rfl rfl ?_
  exact k
theorem s_Model_look_77 {G : xw_G} {F L bc bs : Nat} {pr : Option Value → xw_A → Prop} {px : String → xw_A → Prop} {h : xw_A} {a0 : Nat} {fs_a0 : List Value} {column_a0 : Int32} (l_a0 : fs_a0.length = 62) (e_a0 : h a0 = some (.inr (11, fs_a0))) (g_a0_column : fs_a0[(55 : Nat)]? = some (.int column_a0)) (kr : pr (some (.int column_a0)) h) : xw G m_Model_look F L bc bs pr px 77 [some (.ref a0), none, none] [] h := by
  refine x_aload_n d_Model_look_77 rfl rfl ?_
  refine x_get d_Model_look_78 f_Model_150 e_a0 g_a0_column ?_
  exact x_iret d_Model_look_81 rfl kr
theorem s_Model_segment_0 {G : xw_G} {F L bc bs : Nat} {pr : Option Value → xw_A → Prop} {px : String → xw_A → Prop} {h : xw_A} {a0 : Nat} {x1 : Int32} {x2 : Int32} {fs_a0 : List Value} {segments_a0 : Int32} (l_a0 : fs_a0.length = 62) (e_a0 : h a0 = some (.inr (11, fs_a0))) (g_a0_segments : fs_a0[(19 : Nat)]? = some (.int segments_a0)) (k : xw G m_Model_segment F L bc bs pr px 14 [some (.ref a0), some (.int x1), some (.int x2), none, none] [.int (segments_a0 - 1), .int 0, .int x1, .ref a0] (xw_up h a0 (.inr (11, (fs_a0.set 0 (.int 0)))))) : xw G m_Model_segment F L bc bs pr px 0 [some (.ref a0), some (.int x1), some (.int x2), none, none] [] h := by
  refine x_aload_n d_Model_segment_0 rfl rfl ?_
  refine x_iconst (v := 0) d_Model_segment_1 (by decide) ?_
  refine x_put (ty := .int) d_Model_segment_2 f_Model_130 fw_Model_0.1 fw_Model_0.2 rfl rfl (by simp [l_a0]) e_a0 ?_
  show xw G m_Model_segment F L bc bs pr px 5 [some (.ref a0), some (.int x1), some (.int x2), none, none] [] (xw_up h a0 (.inr (11, (fs_a0.set 0 (.int 0)))))
  refine x_aload_n d_Model_segment_5 rfl rfl ?_
  refine x_iload_n d_Model_segment_6 rfl rfl ?_
  refine x_iconst (v := 0) d_Model_segment_7 (by decide) ?_
  refine x_aload_n d_Model_segment_8 rfl rfl ?_
  refine x_get d_Model_segment_9 f_Model_193 (xw_up_s _ _ _) (xw_gn (by decide) g_a0_segments) ?_
  refine x_iconst (v := 1) d_Model_segment_12 (by decide) ?_
  refine x_isub d_Model_segment_13 ?_
  exact k
theorem s_Model_segment_17 {G : xw_G} {F L bc bs : Nat} {pr : Option Value → xw_A → Prop} {px : String → xw_A → Prop} {h : xw_A} {a0 : Nat} {x1 : Int32} {x2 : Int32} {y0 : Int32}  (kt : ¬ y0 = 0 → xw G m_Model_segment F L bc bs pr px 24 [some (.ref a0), some (.int x1), some (.int x2), none, none] [.ref a0] h) (kf : y0 = 0 → xw G m_Model_segment F L bc bs pr px 20 [some (.ref a0), some (.int x1), some (.int x2), none, none] [.ref a0] h) : xw G m_Model_segment F L bc bs pr px 17 [some (.ref a0), some (.int x1), some (.int x2), none, none] [.int y0, .ref a0] h := by
  refine x_if_ne (tgt := 24) d_Model_segment_17 (by decide) (fun hc => ?_) (fun hc => ?_)
  · exact kt hc
  · exact kf hc
theorem s_Model_segment_20 {G : xw_G} {F L bc bs : Nat} {pr : Option Value → xw_A → Prop} {px : String → xw_A → Prop} {h : xw_A} {a0 : Nat} {x1 : Int32} {x2 : Int32}  (k : xw G m_Model_segment F L bc bs pr px 25 [some (.ref a0), some (.int x1), some (.int x2), none, none] [.int 1, .ref a0] h) : xw G m_Model_segment F L bc bs pr px 20 [some (.ref a0), some (.int x1), some (.int x2), none, none] [.ref a0] h := by
  refine x_iconst (v := 1) d_Model_segment_20 (by decide) ?_
  refine x_goto (tgt := 25) d_Model_segment_21 (by decide) ?_
  exact k
theorem s_Model_segment_24 {G : xw_G} {F L bc bs : Nat} {pr : Option Value → xw_A → Prop} {px : String → xw_A → Prop} {h : xw_A} {a0 : Nat} {x1 : Int32} {x2 : Int32}  (k : xw G m_Model_segment F L bc bs pr px 25 [some (.ref a0), some (.int x1), some (.int x2), none, none] [.int 0, .ref a0] h) : xw G m_Model_segment F L bc bs pr px 24 [some (.ref a0), some (.int x1), some (.int x2), none, none] [.ref a0] h := by
  refine x_iconst (v := 0) d_Model_segment_24 (by decide) ?_
  exact k
theorem s_Model_segment_25 {G : xw_G} {F L bc bs : Nat} {pr : Option Value → xw_A → Prop} {px : String → xw_A → Prop} {h : xw_A} {a0 : Nat} {x1 : Int32} {x2 : Int32} {y0 : Int32}  (k : xw G m_Model_segment F L bc bs pr px 26 [some (.ref a0), some (.int x1), some (.int x2), none, none] [.int 1, .int y0, .ref a0] h) : xw G m_Model_segment F L bc bs pr px 25 [some (.ref a0), some (.int x1), some (.int x2), none, none] [.int y0, .ref a0] h := by
  refine x_iconst (v := 1) d_Model_segment_25 (by decide) ?_
  exact k
theorem s_Model_segment_29 {G : xw_G} {F L bc bs : Nat} {pr : Option Value → xw_A → Prop} {px : String → xw_A → Prop} {h : xw_A} {a0 : Nat} {x1 : Int32} {x2 : Int32} {y0 : Int32}  (kt : ¬ y0 = 0 → xw G m_Model_segment F L bc bs pr px 54 [none, none, none, none, none] [] h) (kf : y0 = 0 → xw G m_Model_segment F L bc bs pr px 32 [some (.ref a0), some (.int x1), some (.int x2), none, none] [] h) : xw G m_Model_segment F L bc bs pr px 29 [some (.ref a0), some (.int x1), some (.int x2), none, none] [.int y0] h := by
  refine x_if_ne (tgt := 54) d_Model_segment_29 (by decide) (fun hc => ?_) (fun hc => ?_)
  · exact x_le (lv' := [none, none, none, none, none]) (xw_le_n (xw_le_n (xw_le_n (xw_le_n (xw_le_n xw_le_e))))) (kt hc)
  · exact kf hc
theorem s_Model_segment_32 {G : xw_G} {F L bc bs : Nat} {pr : Option Value → xw_A → Prop} {px : String → xw_A → Prop} {h : xw_A} {a0 : Nat} {x1 : Int32} {x2 : Int32}  (k : xw G m_Model_segment F L bc bs pr px 36 [some (.ref a0), some (.int x1), some (.int x2), none, none] [.int 2, .int 0, .int x2, .ref a0] h) : xw G m_Model_segment F L bc bs pr px 32 [some (.ref a0), some (.int x1), some (.int x2), none, none] [] h := by
  refine x_aload_n d_Model_segment_32 rfl rfl ?_
  refine x_iload_n d_Model_segment_33 rfl rfl ?_
  refine x_iconst (v := 0) d_Model_segment_34 (by decide) ?_
  refine x_iconst (v := 2) d_Model_segment_35 (by decide) ?_
  exact k
theorem s_Model_segment_39 {G : xw_G} {F L bc bs : Nat} {pr : Option Value → xw_A → Prop} {px : String → xw_A → Prop} {h : xw_A} {a0 : Nat} {x1 : Int32} {x2 : Int32} {y0 : Int32}  (kt : ¬ y0 = 0 → xw G m_Model_segment F L bc bs pr px 46 [some (.ref a0), some (.int x1), some (.int x2), none, none] [.ref a0] h) (kf : y0 = 0 → xw G m_Model_segment F L bc bs pr px 42 [some (.ref a0), some (.int x1), some (.int x2), none, none] [.ref a0] h) : xw G m_Model_segment F L bc bs pr px 39 [some (.ref a0), some (.int x1), some (.int x2), none, none] [.int y0, .ref a0] h := by
  refine x_if_ne (tgt := 46) d_Model_segment_39 (by decide) (fun hc => ?_) (fun hc => ?_)
  · exact kt hc
  · exact kf hc
theorem s_Model_segment_42 {G : xw_G} {F L bc bs : Nat} {pr : Option Value → xw_A → Prop} {px : String → xw_A → Prop} {h : xw_A} {a0 : Nat} {x1 : Int32} {x2 : Int32}  (k : xw G m_Model_segment F L bc bs pr px 47 [some (.ref a0), some (.int x1), some (.int x2), none, none] [.int 1, .ref a0] h) : xw G m_Model_segment F L bc bs pr px 42 [some (.ref a0), some (.int x1), some (.int x2), none, none] [.ref a0] h := by
  refine x_iconst (v := 1) d_Model_segment_42 (by decide) ?_
  refine x_goto (tgt := 47) d_Model_segment_43 (by decide) ?_
  exact k
theorem s_Model_segment_46 {G : xw_G} {F L bc bs : Nat} {pr : Option Value → xw_A → Prop} {px : String → xw_A → Prop} {h : xw_A} {a0 : Nat} {x1 : Int32} {x2 : Int32}  (k : xw G m_Model_segment F L bc bs pr px 47 [some (.ref a0), some (.int x1), some (.int x2), none, none] [.int 0, .ref a0] h) : xw G m_Model_segment F L bc bs pr px 46 [some (.ref a0), some (.int x1), some (.int x2), none, none] [.ref a0] h := by
  refine x_iconst (v := 0) d_Model_segment_46 (by decide) ?_
  exact k
theorem s_Model_segment_47 {G : xw_G} {F L bc bs : Nat} {pr : Option Value → xw_A → Prop} {px : String → xw_A → Prop} {h : xw_A} {a0 : Nat} {x1 : Int32} {x2 : Int32} {y0 : Int32}  (k : xw G m_Model_segment F L bc bs pr px 48 [some (.ref a0), some (.int x1), some (.int x2), none, none] [.int 2, .int y0, .ref a0] h) : xw G m_Model_segment F L bc bs pr px 47 [some (.ref a0), some (.int x1), some (.int x2), none, none] [.int y0, .ref a0] h := by
  refine x_iconst (v := 2) d_Model_segment_47 (by decide) ?_
  exact k
theorem s_Model_segment_51 {G : xw_G} {F L bc bs : Nat} {pr : Option Value → xw_A → Prop} {px : String → xw_A → Prop} {h : xw_A} {a0 : Nat} {x1 : Int32} {x2 : Int32} {y0 : Int32}  (kt : y0 = 0 → xw G m_Model_segment F L bc bs pr px 56 [some (.ref a0), some (.int x1), some (.int x2), none, none] [] h) (kf : ¬ y0 = 0 → xw G m_Model_segment F L bc bs pr px 54 [none, none, none, none, none] [] h) : xw G m_Model_segment F L bc bs pr px 51 [some (.ref a0), some (.int x1), some (.int x2), none, none] [.int y0] h := by
  refine x_if_eq (tgt := 56) d_Model_segment_51 (by decide) (fun hc => ?_) (fun hc => ?_)
  · exact kt hc
  · exact x_le (lv' := [none, none, none, none, none]) (xw_le_n (xw_le_n (xw_le_n (xw_le_n (xw_le_n xw_le_e))))) (kf hc)
theorem s_Model_segment_54 {G : xw_G} {F L bc bs : Nat} {pr : Option Value → xw_A → Prop} {px : String → xw_A → Prop} {h : xw_A}   (kr : pr (some (.int 0)) h) : xw G m_Model_segment F L bc bs pr px 54 [none, none, none, none, none] [] h := by
  refine x_iconst (v := 0) d_Model_segment_54 (by decide) ?_
  exact x_iret d_Model_segment_55 rfl kr
theorem s_Model_segment_56 {G : xw_G} {F L bc bs : Nat} {pr : Option Value → xw_A → Prop} {px : String → xw_A → Prop} {h : xw_A} {a0 : Nat} {x1 : Int32} {x2 : Int32}  (kt : ¬ x2 = 0 → xw G m_Model_segment F L bc bs pr px 72 [some (.ref a0), some (.int x1), some (.int x2), none, none] [] h) (kf : x2 = 0 → xw G m_Model_segment F L bc bs pr px 60 [some (.ref a0), some (.int x1), none, none, none] [] h) : xw G m_Model_segment F L bc bs pr px 56 [some (.ref a0), some (.int x1), some (.int x2), none, none] [] h := by
  refine x_iload_n d_Model_segment_56 rfl rfl ?_
  refine x_if_ne (tgt := 72) d_Model_segment_57 (by decide) (fun hc => ?_) (fun hc => ?_)
  · exact kt hc
  · exact x_le (lv' := [some (.ref a0), some (.int x1), none, none, none]) (xw_le_s (xw_le_s (xw_le_n (xw_le_n (xw_le_n xw_le_e))))) (kf hc)
theorem s_Model_segment_60 {G : xw_G} {F L bc bs : Nat} {pr : Option Value → xw_A → Prop} {px : String → xw_A → Prop} {h : xw_A} {a0 : Nat} {x1 : Int32} {fs_a0 : List Value} {level_a0 : Nat} {row_a0 : Nat} {n_row_a0 : Nat} {f_row_a0 : Nat → Int32} {n_level_a0 : Nat} {f_level_a0 : Nat → Int32} (l_a0 : fs_a0.length = 62) (e_a0 : h a0 = some (.inr (11, fs_a0))) (g_a0_level : fs_a0[(18 : Nat)]? = some (.ref level_a0)) (g_a0_row : fs_a0[(17 : Nat)]? = some (.ref row_a0)) (e_row_a0 : h row_a0 = some (.inl (0, n_row_a0, .inl f_row_a0))) (i_69 : vp_in x1 n_row_a0) (e_level_a0 : h level_a0 = some (.inl (0, n_level_a0, .inl f_level_a0))) (i_70 : vp_in (f_row_a0 x1.toNatClampNeg) n_level_a0) (kr : pr (some (.int (f_level_a0 (f_row_a0 x1.toNatClampNeg).toNatClampNeg))) h) : xw G m_Model_segment F L bc bs pr px 60 [some (.ref a0), some (.int x1), none, none, none] [] h := by
  refine x_aload_n d_Model_segment_60 rfl rfl ?_
  refine x_get d_Model_segment_61 f_Model_50 e_a0 g_a0_level ?_
  refine x_aload_n d_Model_segment_64 rfl rfl ?_
  refine x_get d_Model_segment_65 f_Model_47 e_a0 g_a0_row ?_
  refine x_iload_n d_Model_segment_68 rfl rfl ?_
  refine x_iald d_Model_segment_69 e_row_a0 i_69 ?_
  refine x_iald d_Model_segment_70 e_level_a0 i_70 ?_
  exact x_iret d_Model_segment_71 rfl kr
theorem s_Model_segment_72 {G : xw_G} {F L bc bs : Nat} {pr : Option Value → xw_A → Prop} {px : String → xw_A → Prop} {h : xw_A} {a0 : Nat} {x1 : Int32} {x2 : Int32}  (k : xw G m_Model_segment F L bc bs pr px 77 [some (.ref a0), some (.int x1), some (.int x2), some (.int 0), some (.int 0)] [] h) : xw G m_Model_segment F L bc bs pr px 72 [some (.ref a0), some (.int x1), some (.int x2), none, none] [] h := by
  refine x_iconst (v := 0) d_Model_segment_72 (by decide) ?_
  refine x_istore_n d_Model_segment_73 rfl (by decide) rfl ?_
  show xw G m_Model_segment F L bc bs pr px 74 [some (.ref a0), some (.int x1), some (.int x2), some (.int 0), none] [] h
  refine x_iconst (v := 0) d_Model_segment_74 (by decide) ?_
  refine x_istore d_Model_segment_75 (by decide) rfl ?_
  show xw G m_Model_segment F L bc bs pr px 77 [some (.ref a0), some (.int x1), some (.int x2), some (.int 0), some (.int 0)] [] h
  exact k
theorem s_Model_segment_77 {G : xw_G} {F L bc bs : Nat} {pr : Option Value → xw_A → Prop} {px : String → xw_A → Prop} {h : xw_A} {a0 : Nat} {x1 : Int32} {x2 : Int32} {x3 : Int32} {x4 : Int32} {fs_a0 : List Value} {versions_a0 : Int32} (l_a0 : fs_a0.length = 62) (e_a0 : h a0 = some (.inr (11, fs_a0))) (g_a0_versions : fs_a0[(15 : Nat)]? = some (.int versions_a0)) (kt : versions_a0 ≤ x4 → xw G m_Model_segment F L bc bs pr px 127 [none, none, none, some (.int x3), none] [] h) (kf : ¬ versions_a0 ≤ x4 → xw G m_Model_segment F L bc bs pr px 86 [some (.ref a0), some (.int x1), some (.int x2), some (.int x3), some (.int x4)] [] h) : xw G m_Model_segment F L bc bs pr px 77 [some (.ref a0), some (.int x1), some (.int x2), some (.int x3), some (.int x4)] [] h := by
  refine x_iload d_Model_segment_77 rfl ?_
  refine x_aload_n d_Model_segment_79 rfl rfl ?_
  refine x_get d_Model_segment_80 f_Model_165 e_a0 g_a0_versions ?_
  refine x_icmp_ge (tgt := 127) d_Model_segment_83 (by decide) (fun hc => ?_) (fun hc => ?_)
  · exact x_le (lv' := [none, none, none, some (.int x3), none]) (xw_le_n (xw_le_n (xw_le_n (xw_le_s (xw_le_n xw_le_e))))) (kt hc)
  · exact kf hc
theorem s_Model_segment_86 {G : xw_G} {F L bc bs : Nat} {pr : Option Value → xw_A → Prop} {px : String → xw_A → Prop} {h : xw_A} {a0 : Nat} {x1 : Int32} {x2 : Int32} {x3 : Int32} {x4 : Int32} {fs_a0 : List Value} {lies_a0 : Nat} {n_lies_a0 : Nat} {f_lies_a0 : Nat → Int32} {row_a0 : Nat} {n_row_a0 : Nat} {f_row_a0 : Nat → Int32} (l_a0 : fs_a0.length = 62) (e_a0 : h a0 = some (.inr (11, fs_a0))) (g_a0_lies : fs_a0[(13 : Nat)]? = some (.ref lies_a0)) (e_lies_a0 : h lies_a0 = some (.inl (0, n_lies_a0, .inl f_lies_a0))) (i_92 : vp_in x4 n_lies_a0) (g_a0_row : fs_a0[(17 : Nat)]? = some (.ref row_a0)) (e_row_a0 : h row_a0 = some (.inl (0, n_row_a0, .inl f_row_a0))) (i_98 : vp_in x1 n_row_a0) (kt : ¬ (f_lies_a0 x4.toNatClampNeg) = (f_row_a0 x1.toNatClampNeg) → xw G m_Model_segment F L bc bs pr px 121 [some (.ref a0), some (.int x1), some (.int x2), some (.int x3), some (.int x4)] [] h) (kf : (f_lies_a0 x4.toNatClampNeg) = (f_row_a0 x1.toNatClampNeg) → xw G m_Model_segment F L bc bs pr px 102 [some (.ref a0), some (.int x1), some (.int x2), some (.int x3), some (.int x4)] [] h) : xw G m_Model_segment F L bc bs pr px 86 [some (.ref a0), some (.int x1), some (.int x2), some (.int x3), some (.int x4)] [] h := by
  refine x_aload_n d_Model_segment_86 rfl rfl ?_
  refine x_get d_Model_segment_87 f_Model_41 e_a0 g_a0_lies ?_
  refine x_iload d_Model_segment_90 rfl ?_
  refine x_iald d_Model_segment_92 e_lies_a0 i_92 ?_
  refine x_aload_n d_Model_segment_93 rfl rfl ?_
  refine x_get d_Model_segment_94 f_Model_47 e_a0 g_a0_row ?_
  refine x_iload_n d_Model_segment_97 rfl rfl ?_
  refine x_iald d_Model_segment_98 e_row_a0 i_98 ?_
  refine x_icmp_ne (tgt := 121) d_Model_segment_99 (by decide) (fun hc => ?_) (fun hc => ?_)
  · exact kt hc
  · exact kf hc
theorem s_Model_segment_102 {G : xw_G} {F L bc bs : Nat} {pr : Option Value → xw_A → Prop} {px : String → xw_A → Prop} {h : xw_A} {a0 : Nat} {x1 : Int32} {x2 : Int32} {x3 : Int32} {x4 : Int32}  (kt : ¬ x2 = 1 → xw G m_Model_segment F L bc bs pr px 112 [some (.ref a0), some (.int x1), some (.int x2), none, some (.int x4)] [.int x3] h) (kf : x2 = 1 → xw G m_Model_segment F L bc bs pr px 108 [some (.ref a0), some (.int x1), some (.int x2), none, some (.int x4)] [.int x3] h) : xw G m_Model_segment F L bc bs pr px 102 [some (.ref a0), some (.int x1), some (.int x2), some (.int x3), some (.int x4)] [] h := by
  refine x_iload_n d_Model_segment_102 rfl rfl ?_
  refine x_iload_n d_Model_segment_103 rfl rfl ?_
  refine x_iconst (v := 1) d_Model_segment_104 (by decide) ?_
  refine x_icmp_ne (tgt := 112) d_Model_segment_105 (by decide) (fun hc => ?_) (fun hc => ?_)
  · exact x_le (lv' := [some (.ref a0), some (.int x1), some (.int x2), none, some (.int x4)]) (xw_le_s (xw_le_s (xw_le_s (xw_le_n (xw_le_s xw_le_e))))) (kt hc)
  · exact x_le (lv' := [some (.ref a0), some (.int x1), some (.int x2), none, some (.int x4)]) (xw_le_s (xw_le_s (xw_le_s (xw_le_n (xw_le_s xw_le_e))))) (kf hc)
theorem s_Model_segment_108 {G : xw_G} {F L bc bs : Nat} {pr : Option Value → xw_A → Prop} {px : String → xw_A → Prop} {h : xw_A} {a0 : Nat} {x1 : Int32} {x2 : Int32} {x4 : Int32} {y0 : Int32}  (k : xw G m_Model_segment F L bc bs pr px 119 [some (.ref a0), some (.int x1), some (.int x2), none, some (.int x4)] [.int 1, .int y0] h) : xw G m_Model_segment F L bc bs pr px 108 [some (.ref a0), some (.int x1), some (.int x2), none, some (.int x4)] [.int y0] h := by
  refine x_iconst (v := 1) d_Model_segment_108 (by decide) ?_
  refine x_goto (tgt := 119) d_Model_segment_109 (by decide) ?_
  exact k
theorem s_Model_segment_112 {G : xw_G} {F L bc bs : Nat} {pr : Option Value → xw_A → Prop} {px : String → xw_A → Prop} {h : xw_A} {a0 : Nat} {x1 : Int32} {x2 : Int32} {x4 : Int32} {y0 : Int32} {fs_a0 : List Value} {entries_a0 : Nat} {n_entries_a0 : Nat} {f_entries_a0 : Nat → Int32} (l_a0 : fs_a0.length = 62) (e_a0 : h a0 = some (.inr (11, fs_a0))) (g_a0_entries : fs_a0[(12 : Nat)]? = some (.ref entries_a0)) (e_entries_a0 : h entries_a0 = some (.inl (0, n_entries_a0, .inl f_entries_a0))) (i_118 : vp_in x4 n_entries_a0) (k : xw G m_Model_segment F L bc bs pr px 119 [some (.ref a0), some (.int x1), some (.int x2), none, some (.int x4)] [.int (f_entries_a0 x4.toNatClampNeg), .int y0] h) : xw G m_Model_segment F L bc bs pr px 112 [some (.ref a0), some (.int x1), some (.int x2), none, some (.int x4)] [.int y0] h := by
  refine x_aload_n d_Model_segment_112 rfl rfl ?_
  refine x_get d_Model_segment_113 f_Model_38 e_a0 g_a0_entries ?_
  refine x_iload d_Model_segment_116 rfl ?_
  refine x_iald d_Model_segment_118 e_entries_a0 i_118 ?_
  exact k
theorem s_Model_segment_119 {G : xw_G} {F L bc bs : Nat} {pr : Option Value → xw_A → Prop} {px : String → xw_A → Prop} {h : xw_A} {a0 : Nat} {x1 : Int32} {x2 : Int32} {x4 : Int32} {y0 : Int32} {y1 : Int32}  (k : xw G m_Model_segment F L bc bs pr px 121 [some (.ref a0), some (.int x1), some (.int x2), some (.int (y1 + y0)), some (.int x4)] [] h) : xw G m_Model_segment F L bc bs pr px 119 [some (.ref a0), some (.int x1), some (.int x2), none, some (.int x4)] [.int y0, .int y1] h := by
  refine x_iadd d_Model_segment_119 ?_
  refine x_istore_n d_Model_segment_120 rfl (by decide) rfl ?_
  show xw G m_Model_segment F L bc bs pr px 121 [some (.ref a0), some (.int x1), some (.int x2), some (.int (y1 + y0)), some (.int x4)] [] h
  exact k
theorem s_Model_segment_121 {G : xw_G} {F L bc bs : Nat} {pr : Option Value → xw_A → Prop} {px : String → xw_A → Prop} {h : xw_A} {a0 : Nat} {x1 : Int32} {x2 : Int32} {x3 : Int32} {x4 : Int32}  (k : xw G m_Model_segment F L bc bs pr px 77 [some (.ref a0), some (.int x1), some (.int x2), some (.int x3), some (.int (x4 + 1))] [] h) : xw G m_Model_segment F L bc bs pr px 121 [some (.ref a0), some (.int x1), some (.int x2), some (.int x3), some (.int x4)] [] h := by
  refine x_iinc (v := x4 + 1) d_Model_segment_121 rfl (by rfl) (by decide) rfl ?_
  show xw G m_Model_segment F L bc bs pr px 124 [some (.ref a0), some (.int x1), some (.int x2), some (.int x3), some (.int (x4 + 1))] [] h
  refine x_goto (tgt := 77) d_Model_segment_124 (by decide) ?_
  exact k
theorem s_Model_segment_127 {G : xw_G} {F L bc bs : Nat} {pr : Option Value → xw_A → Prop} {px : String → xw_A → Prop} {h : xw_A} {x3 : Int32}  (kr : pr (some (.int x3)) h) : xw G m_Model_segment F L bc bs pr px 127 [none, none, none, some (.int x3), none] [] h := by
  refine x_iload_n d_Model_segment_127 rfl rfl ?_
  exact x_iret d_Model_segment_128 rfl kr
theorem s_Model_count_0 {G : xw_G} {F L bc bs : Nat} {pr : Option Value → xw_A → Prop} {px : String → xw_A → Prop} {h : xw_A} {a0 : Nat} {x1 : Int32} {fs_a0 : List Value} (l_a0 : fs_a0.length = 62) (e_a0 : h a0 = some (.inr (11, fs_a0))) (k : xw G m_Model_count F L bc bs pr px 10 [some (.ref a0), some (.int x1)] [.int 8, .int 0, .int x1, .ref a0] (xw_up h a0 (.inr (11, (fs_a0.set 0 (.int 0)))))) : xw G m_Model_count F L bc bs pr px 0 [some (.ref a0), some (.int x1)] [] h := by
  refine x_aload_n d_Model_count_0 rfl rfl ?_
  refine x_iconst (v := 0) d_Model_count_1 (by decide) ?_
  refine x_put (ty := .int) d_Model_count_2 f_Model_130 fw_Model_0.1 fw_Model_0.2 rfl rfl (by simp [l_a0]) e_a0 ?_
  show xw G m_Model_count F L bc bs pr px 5 [some (.ref a0), some (.int x1)] [] (xw_up h a0 (.inr (11, (fs_a0.set 0 (.int 0)))))
  refine x_aload_n d_Model_count_5 rfl rfl ?_
  refine x_iload_n d_Model_count_6 rfl rfl ?_
  refine x_iconst (v := 0) d_Model_count_7 (by decide) ?_
  refine x_bipush (v := 8) d_Model_count_8 (by decide) ?_
  exact k
theorem s_Model_count_13 {G : xw_G} {F L bc bs : Nat} {pr : Option Value → xw_A → Prop} {px : String → xw_A → Prop} {h : xw_A} {a0 : Nat} {x1 : Int32} {y0 : Int32}  (kt : ¬ y0 = 0 → xw G m_Model_count F L bc bs pr px 20 [some (.ref a0), some (.int x1)] [.ref a0] h) (kf : y0 = 0 → xw G m_Model_count F L bc bs pr px 16 [some (.ref a0), some (.int x1)] [.ref a0] h) : xw G m_Model_count F L bc bs pr px 13 [some (.ref a0), some (.int x1)] [.int y0, .ref a0] h := by
  refine x_if_ne (tgt := 20) d_Model_count_13 (by decide) (fun hc => ?_) (fun hc => ?_)
  · exact kt hc
  · exact kf hc
theorem s_Model_count_16 {G : xw_G} {F L bc bs : Nat} {pr : Option Value → xw_A → Prop} {px : String → xw_A → Prop} {h : xw_A} {a0 : Nat} {x1 : Int32}  (k : xw G m_Model_count F L bc bs pr px 21 [some (.ref a0), some (.int x1)] [.int 1, .ref a0] h) : xw G m_Model_count F L bc bs pr px 16 [some (.ref a0), some (.int x1)] [.ref a0] h := by
  refine x_iconst (v := 1) d_Model_count_16 (by decide) ?_
  refine x_goto (tgt := 21) d_Model_count_17 (by decide) ?_
  exact k
theorem s_Model_count_20 {G : xw_G} {F L bc bs : Nat} {pr : Option Value → xw_A → Prop} {px : String → xw_A → Prop} {h : xw_A} {a0 : Nat} {x1 : Int32}  (k : xw G m_Model_count F L bc bs pr px 21 [some (.ref a0), some (.int x1)] [.int 0, .ref a0] h) : xw G m_Model_count F L bc bs pr px 20 [some (.ref a0), some (.int x1)] [.ref a0] h := by
  refine x_iconst (v := 0) d_Model_count_20 (by decide) ?_
  exact k
theorem s_Model_count_21 {G : xw_G} {F L bc bs : Nat} {pr : Option Value → xw_A → Prop} {px : String → xw_A → Prop} {h : xw_A} {a0 : Nat} {x1 : Int32} {y0 : Int32}  (k : xw G m_Model_count F L bc bs pr px 22 [some (.ref a0), some (.int x1)] [.int 1, .int y0, .ref a0] h) : xw G m_Model_count F L bc bs pr px 21 [some (.ref a0), some (.int x1)] [.int y0, .ref a0] h := by
  refine x_iconst (v := 1) d_Model_count_21 (by decide) ?_
  exact k
theorem s_Model_count_25 {G : xw_G} {F L bc bs : Nat} {pr : Option Value → xw_A → Prop} {px : String → xw_A → Prop} {h : xw_A} {a0 : Nat} {x1 : Int32} {y0 : Int32}  (kt : y0 = 0 → xw G m_Model_count F L bc bs pr px 30 [some (.ref a0), some (.int x1)] [] h) (kf : ¬ y0 = 0 → xw G m_Model_count F L bc bs pr px 28 [none, none] [] h) : xw G m_Model_count F L bc bs pr px 25 [some (.ref a0), some (.int x1)] [.int y0] h := by
  refine x_if_eq (tgt := 30) d_Model_count_25 (by decide) (fun hc => ?_) (fun hc => ?_)
  · exact kt hc
  · exact x_le (lv' := [none, none]) (xw_le_n (xw_le_n xw_le_e)) (kf hc)
theorem s_Model_count_28 {G : xw_G} {F L bc bs : Nat} {pr : Option Value → xw_A → Prop} {px : String → xw_A → Prop} {h : xw_A}   (kr : pr (some (.int 0)) h) : xw G m_Model_count F L bc bs pr px 28 [none, none] [] h := by
  refine x_iconst (v := 0) d_Model_count_28 (by decide) ?_
  exact x_iret d_Model_count_29 rfl kr
theorem s_Model_count_30 {G : xw_G} {F L bc bs : Nat} {pr : Option Value → xw_A → Prop} {px : String → xw_A → Prop} {h : xw_A} {a0 : Nat} {x1 : Int32}  (kw : xw G m_Model_count F L bc bs pr px 31 [some (.ref a0), some (.int x1)] [.int x1] h) : xw G m_Model_count F L bc bs pr px 30 [some (.ref a0), some (.int x1)] [] h := by
  refine x_iload_n d_Model_count_30 rfl rfl ?_
  exact kw
theorem s_Model_count_76 {G : xw_G} {F L bc bs : Nat} {pr : Option Value → xw_A → Prop} {px : String → xw_A → Prop} {h : xw_A} {a0 : Nat}  (k : xw G m_Model_count F L bc bs pr px 77 [some (.ref a0), none] [.ref a0] h) : xw G m_Model_count F L bc bs pr px 76 [some (.ref a0), none] [] h := by
  refine x_aload_n d_Model_count_76 rfl rfl ?_
  exact k
theorem s_Model_count_80 {G : xw_G} {F L bc bs : Nat} {pr : Option Value → xw_A → Prop} {px : String → xw_A → Prop} {h : xw_A} {y0 : Int32}  (kr : pr (some (.int y0)) h) : xw G m_Model_count F L bc bs pr px 80 [none, none] [.int y0] h := by
  exact x_iret d_Model_count_80 rfl kr
theorem s_Model_count_81 {G : xw_G} {F L bc bs : Nat} {pr : Option Value → xw_A → Prop} {px : String → xw_A → Prop} {h : xw_A} {a0 : Nat} {fs_a0 : List Value} {segments_a0 : Int32} (l_a0 : fs_a0.length = 62) (e_a0 : h a0 = some (.inr (11, fs_a0))) (g_a0_segments : fs_a0[(19 : Nat)]? = some (.int segments_a0)) (kr : pr (some (.int segments_a0)) h) : xw G m_Model_count F L bc bs pr px 81 [some (.ref a0), none] [] h := by
  refine x_aload_n d_Model_count_81 rfl rfl ?_
  refine x_get d_Model_count_82 f_Model_193 e_a0 g_a0_segments ?_
  exact x_iret d_Model_count_85 rfl kr
theorem s_Model_count_86 {G : xw_G} {F L bc bs : Nat} {pr : Option Value → xw_A → Prop} {px : String → xw_A → Prop} {h : xw_A} {a0 : Nat}  (k : xw G m_Model_count F L bc bs pr px 87 [some (.ref a0), none] [.ref a0] h) : xw G m_Model_count F L bc bs pr px 86 [some (.ref a0), none] [] h := by
  refine x_aload_n d_Model_count_86 rfl rfl ?_
  exact k
theorem s_Model_count_90 {G : xw_G} {F L bc bs : Nat} {pr : Option Value → xw_A → Prop} {px : String → xw_A → Prop} {h : xw_A} {y0 : Int32}  (kr : pr (some (.int y0)) h) : xw G m_Model_count F L bc bs pr px 90 [none, none] [.int y0] h := by
  exact x_iret d_Model_count_90 rfl kr
theorem s_Model_count_91 {G : xw_G} {F L bc bs : Nat} {pr : Option Value → xw_A → Prop} {px : String → xw_A → Prop} {h : xw_A} {a0 : Nat} {fs_a0 : List Value} {versions_a0 : Int32} (l_a0 : fs_a0.length = 62) (e_a0 : h a0 = some (.inr (11, fs_a0))) (g_a0_versions : fs_a0[(15 : Nat)]? = some (.int versions_a0)) (kr : pr (some (.int versions_a0)) h) : xw G m_Model_count F L bc bs pr px 91 [some (.ref a0), none] [] h := by
  refine x_aload_n d_Model_count_91 rfl rfl ?_
  refine x_get d_Model_count_92 f_Model_165 e_a0 g_a0_versions ?_
  exact x_iret d_Model_count_95 rfl kr
theorem s_Model_count_96 {G : xw_G} {F L bc bs : Nat} {pr : Option Value → xw_A → Prop} {px : String → xw_A → Prop} {h : xw_A} {a0 : Nat} {fs_a0 : List Value} {made_a0 : Int32} (l_a0 : fs_a0.length = 62) (e_a0 : h a0 = some (.inr (11, fs_a0))) (g_a0_made : fs_a0[(16 : Nat)]? = some (.int made_a0)) (kr : pr (some (.int made_a0)) h) : xw G m_Model_count F L bc bs pr px 96 [some (.ref a0), none] [] h := by
  refine x_aload_n d_Model_count_96 rfl rfl ?_
  refine x_get d_Model_count_97 f_Model_187 e_a0 g_a0_made ?_
  exact x_iret d_Model_count_100 rfl kr
theorem s_Model_count_101 {G : xw_G} {F L bc bs : Nat} {pr : Option Value → xw_A → Prop} {px : String → xw_A → Prop} {h : xw_A} {a0 : Nat} {fs_a0 : List Value} {found_a0 : Int32} (l_a0 : fs_a0.length = 62) (e_a0 : h a0 = some (.inr (11, fs_a0))) (g_a0_found : fs_a0[(56 : Nat)]? = some (.int found_a0)) (kr : pr (some (.int found_a0)) h) : xw G m_Model_count F L bc bs pr px 101 [some (.ref a0), none] [] h := by
  refine x_aload_n d_Model_count_101 rfl rfl ?_
  refine x_get d_Model_count_102 f_Model_360 e_a0 g_a0_found ?_
  exact x_iret d_Model_count_105 rfl kr
theorem s_Model_count_106 {G : xw_G} {F L bc bs : Nat} {pr : Option Value → xw_A → Prop} {px : String → xw_A → Prop} {h : xw_A} {a0 : Nat} {fs_a0 : List Value} {good_a0 : Int32} (l_a0 : fs_a0.length = 62) (e_a0 : h a0 = some (.inr (11, fs_a0))) (g_a0_good : fs_a0[(40 : Nat)]? = some (.int good_a0)) (kr : pr (some (.int good_a0)) h) : xw G m_Model_count F L bc bs pr px 106 [some (.ref a0), none] [] h := by
  refine x_aload_n d_Model_count_106 rfl rfl ?_
  refine x_get d_Model_count_107 f_Model_357 e_a0 g_a0_good ?_
  exact x_iret d_Model_count_110 rfl kr
theorem s_Model_count_111 {G : xw_G} {F L bc bs : Nat} {pr : Option Value → xw_A → Prop} {px : String → xw_A → Prop} {h : xw_A} {a0 : Nat} {fs_a0 : List Value} {open_a0 : Int32} (l_a0 : fs_a0.length = 62) (e_a0 : h a0 = some (.inr (11, fs_a0))) (g_a0_open : fs_a0[(20 : Nat)]? = some (.int open_a0)) (kt : open_a0 = 0 → xw G m_Model_count F L bc bs pr px 122 [none, none] [] h) (kf : ¬ open_a0 = 0 → xw G m_Model_count F L bc bs pr px 118 [none, none] [] h) : xw G m_Model_count F L bc bs pr px 111 [some (.ref a0), none] [] h := by
  refine x_aload_n d_Model_count_111 rfl rfl ?_
  refine x_get d_Model_count_112 f_Model_199 e_a0 g_a0_open ?_
  refine x_if_eq (tgt := 122) d_Model_count_115 (by decide) (fun hc => ?_) (fun hc => ?_)
  · exact x_le (lv' := [none, none]) (xw_le_n (xw_le_n xw_le_e)) (kt hc)
  · exact x_le (lv' := [none, none]) (xw_le_n (xw_le_n xw_le_e)) (kf hc)
theorem s_Model_count_118 {G : xw_G} {F L bc bs : Nat} {pr : Option Value → xw_A → Prop} {px : String → xw_A → Prop} {h : xw_A}   (k : xw G m_Model_count F L bc bs pr px 123 [none, none] [.int 1] h) : xw G m_Model_count F L bc bs pr px 118 [none, none] [] h := by
  refine x_iconst (v := 1) d_Model_count_118 (by decide) ?_
  refine x_goto (tgt := 123) d_Model_count_119 (by decide) ?_
  exact k
theorem s_Model_count_122 {G : xw_G} {F L bc bs : Nat} {pr : Option Value → xw_A → Prop} {px : String → xw_A → Prop} {h : xw_A}   (k : xw G m_Model_count F L bc bs pr px 123 [none, none] [.int 0] h) : xw G m_Model_count F L bc bs pr px 122 [none, none] [] h := by
  refine x_iconst (v := 0) d_Model_count_122 (by decide) ?_
  exact k
theorem s_Model_count_123 {G : xw_G} {F L bc bs : Nat} {pr : Option Value → xw_A → Prop} {px : String → xw_A → Prop} {h : xw_A} {y0 : Int32}  (kr : pr (some (.int y0)) h) : xw G m_Model_count F L bc bs pr px 123 [none, none] [.int y0] h := by
  exact x_iret d_Model_count_123 rfl kr
theorem s_Model_count_124 {G : xw_G} {F L bc bs : Nat} {pr : Option Value → xw_A → Prop} {px : String → xw_A → Prop} {h : xw_A} {a0 : Nat} {fs_a0 : List Value} {drafted_a0 : Int32} (l_a0 : fs_a0.length = 62) (e_a0 : h a0 = some (.inr (11, fs_a0))) (g_a0_drafted : fs_a0[(10 : Nat)]? = some (.int drafted_a0)) (kr : pr (some (.int drafted_a0)) h) : xw G m_Model_count F L bc bs pr px 124 [some (.ref a0), none] [] h := by
  refine x_aload_n d_Model_count_124 rfl rfl ?_
  refine x_get d_Model_count_125 f_Model_143 e_a0 g_a0_drafted ?_
  exact x_iret d_Model_count_128 rfl kr
