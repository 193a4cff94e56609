/-! blocks of Store: by program -/
theorem s_Store_init_0 {G : xw_G} {F L bc bs : Nat} {pr : Option Value → xw_A → Prop} {px : String → xw_A → Prop} {h : xw_A} {a0 : Nat} {rows_a0 : Option Nat} {pending_a0 : Option Nat} {segments_a0 : Option Nat} {live_a0 : Option Nat} {pendingCount_a0 : Int32} {pendingEntries_a0 : Int32} {segmentCount_a0 : Int32} {versionsMade_a0 : Int32} {segmentsMade_a0 : Int32} {liveCount_a0 : Int32} (r_1 : 1 ≤ F ∧ 0 + 12 ≤ L) (u_7 : 1 ≤ bc ∧ 25 ≤ bs) (e_a0 : h a0 = some (.inr (8, [va_rf rows_a0, va_rf pending_a0, va_rf segments_a0, va_rf live_a0, .int pendingCount_a0, .int pendingEntries_a0, .int segmentCount_a0, .int versionsMade_a0, .int segmentsMade_a0, .int liveCount_a0]))) (u_17 : 1 ≤ (bc - 1) ∧ 201 ≤ (bs - 25)) (k : ∀ q7 : Nat, h q7 = none → ∀ q17 : Nat, (xw_up (xw_up h q7 (.inl (10 + 6, 25, .inr (.inr (.inr (.inr ((fun _ => none)))))))) a0 (.inr (8, [.ref q7, va_rf pending_a0, va_rf segments_a0, va_rf live_a0, .int pendingCount_a0, .int pendingEntries_a0, .int segmentCount_a0, .int versionsMade_a0, .int segmentsMade_a0, .int liveCount_a0]))) q17 = none → xw G m_Store_init F L ((bc - 1) - 1) ((bs - 25) - 201) pr px 23 [some (.ref a0)] [] (xw_up (xw_up (xw_up (xw_up h q7 (.inl (10 + 6, 25, .inr (.inr (.inr (.inr ((fun _ => none)))))))) a0 (.inr (8, [.ref q7, va_rf pending_a0, va_rf segments_a0, va_rf live_a0, .int pendingCount_a0, .int pendingEntries_a0, .int segmentCount_a0, .int versionsMade_a0, .int segmentsMade_a0, .int liveCount_a0]))) q17 (.inl (10 + 6, 201, .inr (.inr (.inr (.inr ((fun _ => none)))))))) a0 (.inr (8, [.ref q7, .ref q17, va_rf segments_a0, va_rf live_a0, .int pendingCount_a0, .int pendingEntries_a0, .int segmentCount_a0, .int versionsMade_a0, .int segmentsMade_a0, .int liveCount_a0])))) : xw G m_Store_init F L bc bs pr px 0 [some (.ref a0)] [] h := by
  refine x_aload_n d_Store_init_0 rfl rfl ?_
  refine x_objInit d_Store_init_1 oi_Store r_1.1 (by simpa [Value.category] using r_1.2) ?_
  refine x_aload_n d_Store_init_4 rfl rfl ?_
  refine x_bipush (v := 25) d_Store_init_5 (by decide) ?_
  refine x_anew (ci := 10) (N := 25) d_Store_init_7 (by decide) an_Store_9 ao_Version (by decide) (by decide) (by decide) u_7 (fun q7 hq7 => ?_)
  show xw G m_Store_init F L (bc - 1) (bs - 25) pr px 10 [some (.ref a0)] [.ref q7, .ref a0] (xw_up h q7 (.inl (10 + 6, 25, .inr (.inr (.inr (.inr ((fun _ => none))))))))
  refine x_putF (ty := (.array (.object "PhraseShelf$Version"))) d_Store_init_10 f_Store_11 fw_Store_0.1 rfl rfl fw_Store_0.2 rfl rfl (Nat.le_of_ble_eq_true rfl) ((xw_up_n _ _ (xw_neN e_a0 hq7)).trans e_a0) ?_
  show xw G m_Store_init F L (bc - 1) (bs - 25) pr px 13 [some (.ref a0)] [] (xw_up (xw_up h q7 (.inl (10 + 6, 25, .inr (.inr (.inr (.inr ((fun _ => none)))))))) a0 (.inr (8, [.ref q7, va_rf pending_a0, va_rf segments_a0, va_rf live_a0, .int pendingCount_a0, .int pendingEntries_a0, .int segmentCount_a0, .int versionsMade_a0, .int segmentsMade_a0, .int liveCount_a0])))
  refine x_aload_n d_Store_init_13 rfl rfl ?_
  refine x_sipush (v := 201) d_Store_init_14 (by decide) ?_
  refine x_anew (ci := 10) (N := 201) d_Store_init_17 (by decide) an_Store_9 ao_Version (by decide) (by decide) (by decide) u_17 (fun q17 hq17 => ?_)
  show xw G m_Store_init F L ((bc - 1) - 1) ((bs - 25) - 201) pr px 20 [some (.ref a0)] [.ref q17, .ref a0] (xw_up (xw_up (xw_up h q7 (.inl (10 + 6, 25, .inr (.inr (.inr (.inr ((fun _ => none)))))))) a0 (.inr (8, [.ref q7, va_rf pending_a0, va_rf segments_a0, va_rf live_a0, .int pendingCount_a0, .int pendingEntries_a0, .int segmentCount_a0, .int versionsMade_a0, .int segmentsMade_a0, .int liveCount_a0]))) q17 (.inl (10 + 6, 201, .inr (.inr (.inr (.inr ((fun _ => none))))))))
  refine x_putF (ty := (.array (.object "PhraseShelf$Version"))) d_Store_init_20 f_Store_17 fw_Store_1.1 rfl rfl fw_Store_1.2 rfl rfl (Nat.le_of_ble_eq_true rfl) ((xw_up_n _ _ (xw_neN (xw_up_s _ _ _) hq17)).trans (xw_up_s _ _ _)) ?_
  show xw G m_Store_init F L ((bc - 1) - 1) ((bs - 25) - 201) pr px 23 [some (.ref a0)] [] (xw_up (xw_up (xw_up (xw_up h q7 (.inl (10 + 6, 25, .inr (.inr (.inr (.inr ((fun _ => none)))))))) a0 (.inr (8, [.ref q7, va_rf pending_a0, va_rf segments_a0, va_rf live_a0, .int pendingCount_a0, .int pendingEntries_a0, .int segmentCount_a0, .int versionsMade_a0, .int segmentsMade_a0, .int liveCount_a0]))) q17 (.inl (10 + 6, 201, .inr (.inr (.inr (.inr ((fun _ => none)))))))) a0 (.inr (8, [.ref q7, .ref q17, va_rf segments_a0, va_rf live_a0, .int pendingCount_a0, .int pendingEntries_a0, .int segmentCount_a0, .int versionsMade_a0, .int segmentsMade_a0, .int liveCount_a0])))
  exact (k q7 hq7 q17 hq17)
theorem s_Store_init_23 {G : xw_G} {F L bc bs : Nat} {pr : Option Value → xw_A → Prop} {px : String → xw_A → Prop} {h : xw_A} {a0 : Nat} {rows_a0 : Option Nat} {pending_a0 : Option Nat} {segments_a0 : Option Nat} {live_a0 : Option Nat} {pendingCount_a0 : Int32} {pendingEntries_a0 : Int32} {segmentCount_a0 : Int32} {versionsMade_a0 : Int32} {segmentsMade_a0 : Int32} {liveCount_a0 : Int32} (u_27 : 1 ≤ bc ∧ 512 ≤ bs) (e_a0 : h a0 = some (.inr (8, [va_rf rows_a0, va_rf pending_a0, va_rf segments_a0, va_rf live_a0, .int pendingCount_a0, .int pendingEntries_a0, .int segmentCount_a0, .int versionsMade_a0, .int segmentsMade_a0, .int liveCount_a0]))) (u_36 : 1 ≤ (bc - 1) ∧ 24 ≤ (bs - 512)) (k : ∀ q27 : Nat, h q27 = none → ∀ q36 : Nat, (xw_up (xw_up h q27 (.inl (6 + 6, 512, .inr (.inr (.inr (.inr ((fun _ => none)))))))) a0 (.inr (8, [va_rf rows_a0, va_rf pending_a0, .ref q27, va_rf live_a0, .int pendingCount_a0, .int pendingEntries_a0, .int segmentCount_a0, .int versionsMade_a0, .int segmentsMade_a0, .int liveCount_a0]))) q36 = none → xw G m_Store_init F L ((bc - 1) - 1) ((bs - 512) - 24) pr px 42 [none] [] (xw_up (xw_up (xw_up (xw_up h q27 (.inl (6 + 6, 512, .inr (.inr (.inr (.inr ((fun _ => none)))))))) a0 (.inr (8, [va_rf rows_a0, va_rf pending_a0, .ref q27, va_rf live_a0, .int pendingCount_a0, .int pendingEntries_a0, .int segmentCount_a0, .int versionsMade_a0, .int segmentsMade_a0, .int liveCount_a0]))) q36 (.inl (10 + 6, 24, .inr (.inr (.inr (.inr ((fun _ => none)))))))) a0 (.inr (8, [va_rf rows_a0, va_rf pending_a0, .ref q27, .ref q36, .int pendingCount_a0, .int pendingEntries_a0, .int segmentCount_a0, .int versionsMade_a0, .int segmentsMade_a0, .int liveCount_a0])))) : xw G m_Store_init F L bc bs pr px 23 [some (.ref a0)] [] h := by
  refine x_aload_n d_Store_init_23 rfl rfl ?_
  refine x_sipush (v := 512) d_Store_init_24 (by decide) ?_
  refine x_anew (ci := 6) (N := 512) d_Store_init_27 (by decide) an_Store_20 ao_Segment (by decide) (by decide) (by decide) u_27 (fun q27 hq27 => ?_)
  show xw G m_Store_init F L (bc - 1) (bs - 512) pr px 30 [some (.ref a0)] [.ref q27, .ref a0] (xw_up h q27 (.inl (6 + 6, 512, .inr (.inr (.inr (.inr ((fun _ => none))))))))
  refine x_putF (ty := (.array (.object "PhraseShelf$Segment"))) d_Store_init_30 f_Store_22 fw_Store_2.1 rfl rfl fw_Store_2.2 rfl rfl (Nat.le_of_ble_eq_true rfl) ((xw_up_n _ _ (xw_neN e_a0 hq27)).trans e_a0) ?_
  show xw G m_Store_init F L (bc - 1) (bs - 512) pr px 33 [some (.ref a0)] [] (xw_up (xw_up h q27 (.inl (6 + 6, 512, .inr (.inr (.inr (.inr ((fun _ => none)))))))) a0 (.inr (8, [va_rf rows_a0, va_rf pending_a0, .ref q27, va_rf live_a0, .int pendingCount_a0, .int pendingEntries_a0, .int segmentCount_a0, .int versionsMade_a0, .int segmentsMade_a0, .int liveCount_a0])))
  refine x_aload_n d_Store_init_33 rfl rfl ?_
  refine x_bipush (v := 24) d_Store_init_34 (by decide) ?_
  refine x_anew (ci := 10) (N := 24) d_Store_init_36 (by decide) an_Store_9 ao_Version (by decide) (by decide) (by decide) u_36 (fun q36 hq36 => ?_)
  show xw G m_Store_init F L ((bc - 1) - 1) ((bs - 512) - 24) pr px 39 [some (.ref a0)] [.ref q36, .ref a0] (xw_up (xw_up (xw_up h q27 (.inl (6 + 6, 512, .inr (.inr (.inr (.inr ((fun _ => none)))))))) a0 (.inr (8, [va_rf rows_a0, va_rf pending_a0, .ref q27, va_rf live_a0, .int pendingCount_a0, .int pendingEntries_a0, .int segmentCount_a0, .int versionsMade_a0, .int segmentsMade_a0, .int liveCount_a0]))) q36 (.inl (10 + 6, 24, .inr (.inr (.inr (.inr ((fun _ => none))))))))
  refine x_putF (ty := (.array (.object "PhraseShelf$Version"))) d_Store_init_39 f_Store_26 fw_Store_3.1 rfl rfl fw_Store_3.2 rfl rfl (Nat.le_of_ble_eq_true rfl) ((xw_up_n _ _ (xw_neN (xw_up_s _ _ _) hq36)).trans (xw_up_s _ _ _)) ?_
  show xw G m_Store_init F L ((bc - 1) - 1) ((bs - 512) - 24) pr px 42 [some (.ref a0)] [] (xw_up (xw_up (xw_up (xw_up h q27 (.inl (6 + 6, 512, .inr (.inr (.inr (.inr ((fun _ => none)))))))) a0 (.inr (8, [va_rf rows_a0, va_rf pending_a0, .ref q27, va_rf live_a0, .int pendingCount_a0, .int pendingEntries_a0, .int segmentCount_a0, .int versionsMade_a0, .int segmentsMade_a0, .int liveCount_a0]))) q36 (.inl (10 + 6, 24, .inr (.inr (.inr (.inr ((fun _ => none)))))))) a0 (.inr (8, [va_rf rows_a0, va_rf pending_a0, .ref q27, .ref q36, .int pendingCount_a0, .int pendingEntries_a0, .int segmentCount_a0, .int versionsMade_a0, .int segmentsMade_a0, .int liveCount_a0])))
  exact x_le (lv' := [none]) (xw_le_n xw_le_e) ((k q27 hq27 q36 hq36))
theorem s_Store_init_42 {G : xw_G} {F L bc bs : Nat} {pr : Option Value → xw_A → Prop} {px : String → xw_A → Prop} {h : xw_A}   (kr : pr none h) : xw G m_Store_init F L bc bs pr px 42 [none] [] h := by
  exact x_vret d_Store_init_42 rfl kr
theorem s_Store_flushPending_0 {G : xw_G} {F L bc bs : Nat} {pr : Option Value → xw_A → Prop} {px : String → xw_A → Prop} {h : xw_A} {a0 : Nat} {x1 : Int32} {rows_a0 : Option Nat} {pending_a0 : Option Nat} {segments_a0 : Option Nat} {live_a0 : Option Nat} {pendingCount_a0 : Int32} {pendingEntries_a0 : Int32} {segmentCount_a0 : Int32} {versionsMade_a0 : Int32} {segmentsMade_a0 : Int32} {liveCount_a0 : Int32} (e_a0 : h a0 = some (.inr (8, [va_rf rows_a0, va_rf pending_a0, va_rf segments_a0, va_rf live_a0, .int pendingCount_a0, .int pendingEntries_a0, .int segmentCount_a0, .int versionsMade_a0, .int segmentsMade_a0, .int liveCount_a0]))) (k : xw G m_Store_flushPending F L bc bs pr px 7 [some (.ref a0), some (.int x1), some (.int 0)] [] (xw_up h a0 (.inr (8, [va_rf rows_a0, va_rf pending_a0, va_rf segments_a0, va_rf live_a0, .int pendingCount_a0, .int pendingEntries_a0, .int segmentCount_a0, .int versionsMade_a0, .int segmentsMade_a0, .int 0])))) : xw G m_Store_flushPending F L bc bs pr px 0 [some (.ref a0), some (.int x1), none] [] h := by
  refine x_aload_n d_Store_flushPending_0 rfl rfl ?_
  refine x_iconst (v := 0) d_Store_flushPending_1 (by decide) ?_
  refine x_put (ty := .int) d_Store_flushPending_2 f_Store_51 fw_Store_9.1 fw_Store_9.2 rfl rfl (Nat.le_of_ble_eq_true rfl) e_a0 ?_
  show xw G m_Store_flushPending F L bc bs pr px 5 [some (.ref a0), some (.int x1), none] [] (xw_up h a0 (.inr (8, [va_rf rows_a0, va_rf pending_a0, va_rf segments_a0, va_rf live_a0, .int pendingCount_a0, .int pendingEntries_a0, .int segmentCount_a0, .int versionsMade_a0, .int segmentsMade_a0, .int 0])))
  refine x_iconst (v := 0) d_Store_flushPending_5 (by decide) ?_
  refine x_istore_n d_Store_flushPending_6 rfl (by decide) rfl ?_
  show xw G m_Store_flushPending F L bc bs pr px 7 [some (.ref a0), some (.int x1), some (.int 0)] [] (xw_up h a0 (.inr (8, [va_rf rows_a0, va_rf pending_a0, va_rf segments_a0, va_rf live_a0, .int pendingCount_a0, .int pendingEntries_a0, .int segmentCount_a0, .int versionsMade_a0, .int segmentsMade_a0, .int 0])))
  exact k
theorem s_Store_flushPending_7 {G : xw_G} {F L bc bs : Nat} {pr : Option Value → xw_A → Prop} {px : String → xw_A → Prop} {h : xw_A} {a0 : Nat} {x1 : Int32} {x2 : Int32} {rows_a0 : Option Nat} {pending_a0 : Option Nat} {segments_a0 : Option Nat} {live_a0 : Option Nat} {pendingCount_a0 : Int32} {pendingEntries_a0 : Int32} {segmentCount_a0 : Int32} {versionsMade_a0 : Int32} {segmentsMade_a0 : Int32} {liveCount_a0 : Int32} (e_a0 : h a0 = some (.inr (8, [va_rf rows_a0, va_rf pending_a0, va_rf segments_a0, va_rf live_a0, .int pendingCount_a0, .int pendingEntries_a0, .int segmentCount_a0, .int versionsMade_a0, .int segmentsMade_a0, .int liveCount_a0]))) (kt : pendingCount_a0 ≤ x2 → xw G m_Store_flushPending F L bc bs pr px 31 [some (.ref a0), some (.int x1), none] [] h) (kf : ¬ pendingCount_a0 ≤ x2 → xw G m_Store_flushPending F L bc bs pr px 15 [some (.ref a0), some (.int x1), some (.int x2)] [] h) : xw G m_Store_flushPending F L bc bs pr px 7 [some (.ref a0), some (.int x1), some (.int x2)] [] h := by
  refine x_iload_n d_Store_flushPending_7 rfl rfl ?_
  refine x_aload_n d_Store_flushPending_8 rfl rfl ?_
  refine x_get d_Store_flushPending_9 f_Store_45 e_a0 rfl ?_
  refine x_icmp_ge (tgt := 31) d_Store_flushPending_12 (by decide) (fun hc => ?_) (fun hc => ?_)
  · exact x_le (lv' := [some (.ref a0), some (.int x1), none]) (xw_le_s (xw_le_s (xw_le_n xw_le_e))) (kt hc)
  · exact kf hc
theorem s_Store_flushPending_15 {G : xw_G} {F L bc bs : Nat} {pr : Option Value → xw_A → Prop} {px : String → xw_A → Prop} {h : xw_A} {a0 : Nat} {x1 : Int32} {x2 : Int32} {rows_a0 : Option Nat} {pending_a0 : Nat} {segments_a0 : Option Nat} {live_a0 : Option Nat} {pendingCount_a0 : Int32} {pendingEntries_a0 : Int32} {segmentCount_a0 : Int32} {versionsMade_a0 : Int32} {segmentsMade_a0 : Int32} {liveCount_a0 : Int32} {n_pending_a0 : Nat} {f_pending_a0 : Nat → Option Nat} (e_a0 : h a0 = some (.inr (8, [va_rf rows_a0, .ref pending_a0, va_rf segments_a0, va_rf live_a0, .int pendingCount_a0, .int pendingEntries_a0, .int segmentCount_a0, .int versionsMade_a0, .int segmentsMade_a0, .int liveCount_a0]))) (e_pending_a0 : h pending_a0 = some (.inl (10 + 6, n_pending_a0, .inr (.inr (.inr (.inr f_pending_a0)))))) (i_21 : vp_in x2 n_pending_a0) (k : xw G m_Store_flushPending F L bc bs pr px 22 [some (.ref a0), some (.int x1), some (.int x2)] [va_rf (f_pending_a0 x2.toNatClampNeg), .ref a0] h) : xw G m_Store_flushPending F L bc bs pr px 15 [some (.ref a0), some (.int x1), some (.int x2)] [] h := by
  refine x_aload_n d_Store_flushPending_15 rfl rfl ?_
  refine x_aload_n d_Store_flushPending_16 rfl rfl ?_
  refine x_get d_Store_flushPending_17 f_Store_17 e_a0 rfl ?_
  refine x_iload_n d_Store_flushPending_20 rfl rfl ?_
  refine x_aald d_Store_flushPending_21 e_pending_a0 i_21 rfl ?_
  exact k
theorem s_Store_flushPending_25 {G : xw_G} {F L bc bs : Nat} {pr : Option Value → xw_A → Prop} {px : String → xw_A → Prop} {h : xw_A} {a0 : Nat} {x1 : Int32} {x2 : Int32}  (k : xw G m_Store_flushPending F L bc bs pr px 7 [some (.ref a0), some (.int x1), some (.int (x2 + 1))] [] h) : xw G m_Store_flushPending F L bc bs pr px 25 [some (.ref a0), some (.int x1), some (.int x2)] [] h := by
  refine x_iinc (v := x2 + 1) d_Store_flushPending_25 rfl (by rfl) (by decide) rfl ?_
  show xw G m_Store_flushPending F L bc bs pr px 28 [some (.ref a0), some (.int x1), some (.int (x2 + 1))] [] h
  refine x_goto (tgt := 7) d_Store_flushPending_28 (by decide) ?_
  exact k
theorem s_Store_flushPending_31 {G : xw_G} {F L bc bs : Nat} {pr : Option Value → xw_A → Prop} {px : String → xw_A → Prop} {h : xw_A} {a0 : Nat} {x1 : Int32} {rows_a0 : Option Nat} {pending_a0 : Option Nat} {segments_a0 : Option Nat} {live_a0 : Option Nat} {pendingCount_a0 : Int32} {pendingEntries_a0 : Int32} {segmentCount_a0 : Int32} {versionsMade_a0 : Int32} {segmentsMade_a0 : Int32} {liveCount_a0 : Int32} (e_a0 : h a0 = some (.inr (8, [va_rf rows_a0, va_rf pending_a0, va_rf segments_a0, va_rf live_a0, .int pendingCount_a0, .int pendingEntries_a0, .int segmentCount_a0, .int versionsMade_a0, .int segmentsMade_a0, .int liveCount_a0]))) (k : xw G m_Store_flushPending F L bc bs pr px 43 [some (.ref a0), some (.int x1), none] [.int 0, .ref a0] (xw_up (xw_up h a0 (.inr (8, [va_rf rows_a0, va_rf pending_a0, va_rf segments_a0, va_rf live_a0, .int 0, .int pendingEntries_a0, .int segmentCount_a0, .int versionsMade_a0, .int segmentsMade_a0, .int liveCount_a0]))) a0 (.inr (8, [va_rf rows_a0, va_rf pending_a0, va_rf segments_a0, va_rf live_a0, .int 0, .int 0, .int segmentCount_a0, .int versionsMade_a0, .int segmentsMade_a0, .int liveCount_a0])))) : xw G m_Store_flushPending F L bc bs pr px 31 [some (.ref a0), some (.int x1), none] [] h := by
  refine x_aload_n d_Store_flushPending_31 rfl rfl ?_
  refine x_iconst (v := 0) d_Store_flushPending_32 (by decide) ?_
  refine x_put (ty := .int) d_Store_flushPending_33 f_Store_45 fw_Store_4.1 fw_Store_4.2 rfl rfl (Nat.le_of_ble_eq_true rfl) e_a0 ?_
  show xw G m_Store_flushPending F L bc bs pr px 36 [some (.ref a0), some (.int x1), none] [] (xw_up h a0 (.inr (8, [va_rf rows_a0, va_rf pending_a0, va_rf segments_a0, va_rf live_a0, .int 0, .int pendingEntries_a0, .int segmentCount_a0, .int versionsMade_a0, .int segmentsMade_a0, .int liveCount_a0])))
  refine x_aload_n d_Store_flushPending_36 rfl rfl ?_
  refine x_iconst (v := 0) d_Store_flushPending_37 (by decide) ?_
  refine x_put (ty := .int) d_Store_flushPending_38 f_Store_48 fw_Store_5.1 fw_Store_5.2 rfl rfl (Nat.le_of_ble_eq_true rfl) (xw_up_s _ _ _) ?_
  show xw G m_Store_flushPending F L bc bs pr px 41 [some (.ref a0), some (.int x1), none] [] (xw_up (xw_up h a0 (.inr (8, [va_rf rows_a0, va_rf pending_a0, va_rf segments_a0, va_rf live_a0, .int 0, .int pendingEntries_a0, .int segmentCount_a0, .int versionsMade_a0, .int segmentsMade_a0, .int liveCount_a0]))) a0 (.inr (8, [va_rf rows_a0, va_rf pending_a0, va_rf segments_a0, va_rf live_a0, .int 0, .int 0, .int segmentCount_a0, .int versionsMade_a0, .int segmentsMade_a0, .int liveCount_a0])))
  refine x_aload_n d_Store_flushPending_41 rfl rfl ?_
  refine x_iconst (v := 0) d_Store_flushPending_42 (by decide) ?_
  exact k
theorem s_Store_flushPending_46 {G : xw_G} {F L bc bs : Nat} {pr : Option Value → xw_A → Prop} {px : String → xw_A → Prop} {h : xw_A} {a0 : Nat} {x1 : Int32}  (k : xw G m_Store_flushPending F L bc bs pr px 48 [some (.ref a0), some (.int x1), some (.int 0)] [] h) : xw G m_Store_flushPending F L bc bs pr px 46 [some (.ref a0), some (.int x1), none] [] h := by
  refine x_iconst (v := 0) d_Store_flushPending_46 (by decide) ?_
  refine x_istore_n d_Store_flushPending_47 rfl (by decide) rfl ?_
  show xw G m_Store_flushPending F L bc bs pr px 48 [some (.ref a0), some (.int x1), some (.int 0)] [] h
  exact k
theorem s_Store_flushPending_48 {G : xw_G} {F L bc bs : Nat} {pr : Option Value → xw_A → Prop} {px : String → xw_A → Prop} {h : xw_A} {a0 : Nat} {x1 : Int32} {x2 : Int32}  (kt : 5 ≤ x2 → xw G m_Store_flushPending F L bc bs pr px 77 [none, none, none] [] h) (kf : ¬ 5 ≤ x2 → xw G m_Store_flushPending F L bc bs pr px 53 [some (.ref a0), some (.int x1), some (.int x2)] [] h) : xw G m_Store_flushPending F L bc bs pr px 48 [some (.ref a0), some (.int x1), some (.int x2)] [] h := by
  refine x_iload_n d_Store_flushPending_48 rfl rfl ?_
  refine x_iconst (v := 5) d_Store_flushPending_49 (by decide) ?_
  refine x_icmp_ge (tgt := 77) d_Store_flushPending_50 (by decide) (fun hc => ?_) (fun hc => ?_)
  · exact x_le (lv' := [none, none, none]) (xw_le_n (xw_le_n (xw_le_n xw_le_e))) (kt hc)
  · exact kf hc
theorem s_Store_flushPending_53 {G : xw_G} {F L bc bs : Nat} {pr : Option Value → xw_A → Prop} {px : String → xw_A → Prop} {h : xw_A} {a0 : Nat} {x1 : Int32} {x2 : Int32}  (k : xw G m_Store_flushPending F L bc bs pr px 55 [some (.ref a0), some (.int x1), some (.int x2)] [.int x2, .ref a0] h) : xw G m_Store_flushPending F L bc bs pr px 53 [some (.ref a0), some (.int x1), some (.int x2)] [] h := by
  refine x_aload_n d_Store_flushPending_53 rfl rfl ?_
  refine x_iload_n d_Store_flushPending_54 rfl rfl ?_
  exact k
theorem s_Store_flushPending_58 {G : xw_G} {F L bc bs : Nat} {pr : Option Value → xw_A → Prop} {px : String → xw_A → Prop} {h : xw_A} {a0 : Nat} {x1 : Int32} {x2 : Int32} {y0 : Int32}  (kt : y0 ≤ x1 → xw G m_Store_flushPending F L bc bs pr px 71 [some (.ref a0), some (.int x1), some (.int x2)] [] h) (kf : ¬ y0 ≤ x1 → xw G m_Store_flushPending F L bc bs pr px 62 [some (.ref a0), some (.int x1), some (.int x2)] [] h) : xw G m_Store_flushPending F L bc bs pr px 58 [some (.ref a0), some (.int x1), some (.int x2)] [.int y0] h := by
  refine x_iload_n d_Store_flushPending_58 rfl rfl ?_
  refine x_icmp_le (tgt := 71) d_Store_flushPending_59 (by decide) (fun hc => ?_) (fun hc => ?_)
  · exact kt hc
  · exact kf hc
theorem s_Store_flushPending_62 {G : xw_G} {F L bc bs : Nat} {pr : Option Value → xw_A → Prop} {px : String → xw_A → Prop} {h : xw_A} {a0 : Nat} {x1 : Int32} {x2 : Int32}  (k : xw G m_Store_flushPending F L bc bs pr px 68 [some (.ref a0), some (.int x1), some (.int x2)] [.int (x2 + 1), .int x2, .int x2, .ref a0] h) : xw G m_Store_flushPending F L bc bs pr px 62 [some (.ref a0), some (.int x1), some (.int x2)] [] h := by
  refine x_aload_n d_Store_flushPending_62 rfl rfl ?_
  refine x_iload_n d_Store_flushPending_63 rfl rfl ?_
  refine x_iload_n d_Store_flushPending_64 rfl rfl ?_
  refine x_iload_n d_Store_flushPending_65 rfl rfl ?_
  refine x_iconst (v := 1) d_Store_flushPending_66 (by decide) ?_
  refine x_iadd d_Store_flushPending_67 ?_
  exact k
theorem s_Store_flushPending_71 {G : xw_G} {F L bc bs : Nat} {pr : Option Value → xw_A → Prop} {px : String → xw_A → Prop} {h : xw_A} {a0 : Nat} {x1 : Int32} {x2 : Int32}  (k : xw G m_Store_flushPending F L bc bs pr px 48 [some (.ref a0), some (.int x1), some (.int (x2 + 1))] [] h) : xw G m_Store_flushPending F L bc bs pr px 71 [some (.ref a0), some (.int x1), some (.int x2)] [] h := by
  refine x_iinc (v := x2 + 1) d_Store_flushPending_71 rfl (by rfl) (by decide) rfl ?_
  show xw G m_Store_flushPending F L bc bs pr px 74 [some (.ref a0), some (.int x1), some (.int (x2 + 1))] [] h
  refine x_goto (tgt := 48) d_Store_flushPending_74 (by decide) ?_
  exact k
theorem s_Store_flushPending_77 {G : xw_G} {F L bc bs : Nat} {pr : Option Value → xw_A → Prop} {px : String → xw_A → Prop} {h : xw_A}   (kr : pr none h) : xw G m_Store_flushPending F L bc bs pr px 77 [none, none, none] [] h := by
  exact x_vret d_Store_flushPending_77 rfl kr
theorem s_Store_gatherLive_0 {G : xw_G} {F L bc bs : Nat} {pr : Option Value → xw_A → Prop} {px : String → xw_A → Prop} {h : xw_A} {a0 : Nat} {a1 : Nat} {rows_a0 : Nat} {pending_a0 : Option Nat} {segments_a0 : Option Nat} {live_a0 : Option Nat} {pendingCount_a0 : Int32} {pendingEntries_a0 : Int32} {segmentCount_a0 : Int32} {versionsMade_a0 : Int32} {segmentsMade_a0 : Int32} {liveCount_a0 : Int32} {number_a1 : Int32} {row_a1 : Int32} {first_a1 : Option Nat} {second_a1 : Option Nat} {entries_a1 : Int32} {n_rows_a0 : Nat} {f_rows_a0 : Nat → Option Nat} (e_a0 : h a0 = some (.inr (8, [.ref rows_a0, va_rf pending_a0, va_rf segments_a0, va_rf live_a0, .int pendingCount_a0, .int pendingEntries_a0, .int segmentCount_a0, .int versionsMade_a0, .int segmentsMade_a0, .int liveCount_a0]))) (e_a1 : h a1 = some (.inr (10, [.int number_a1, .int row_a1, va_rf first_a1, va_rf second_a1, .int entries_a1]))) (e_rows_a0 : h rows_a0 = some (.inl (10 + 6, n_rows_a0, .inr (.inr (.inr (.inr f_rows_a0)))))) (i_8 : vp_in row_a1 n_rows_a0) (kn : (f_rows_a0 row_a1.toNatClampNeg) = none → xw G m_Store_gatherLive F L bc bs pr px 29 [some (.ref a0), some (.ref a1), none, none] [] h) (ks : ∀ a9 : Nat, (f_rows_a0 row_a1.toNatClampNeg) = some a9 → xw G m_Store_gatherLive F L bc bs pr px 14 [some (.ref a0), some (.ref a1), some (va_rf (f_rows_a0 row_a1.toNatClampNeg)), none] [] h) : xw G m_Store_gatherLive F L bc bs pr px 0 [some (.ref a0), some (.ref a1), none, none] [] h := by
  refine x_aload_n d_Store_gatherLive_0 rfl rfl ?_
  refine x_get d_Store_gatherLive_1 f_Store_11 e_a0 rfl ?_
  refine x_aload_n d_Store_gatherLive_4 rfl rfl ?_
  refine x_get d_Store_gatherLive_5 f_Store_89 e_a1 rfl ?_
  refine x_aald d_Store_gatherLive_8 e_rows_a0 i_8 rfl ?_
  refine x_astoreq_n d_Store_gatherLive_9 rfl (by decide) rfl ?_
  show xw G m_Store_gatherLive F L bc bs pr px 10 [some (.ref a0), some (.ref a1), some (va_rf (f_rows_a0 row_a1.toNatClampNeg)), none] [] h
  refine x_aloadq_n d_Store_gatherLive_10 rfl rfl ?_
  refine x_ifnullq (tgt := 29) d_Store_gatherLive_11 (by decide) (fun hc => ?_) (fun a9 hc => ?_)
  · exact x_le (lv' := [some (.ref a0), some (.ref a1), none, none]) (xw_le_s (xw_le_s (xw_le_n (xw_le_n xw_le_e)))) (kn hc)
  · exact ks a9 hc
theorem s_Store_gatherLive_14 {G : xw_G} {F L bc bs : Nat} {pr : Option Value → xw_A → Prop} {px : String → xw_A → Prop} {h : xw_A} {a0 : Nat} {a1 : Nat} {a2 : Nat} {number_a2 : Int32} {row_a2 : Int32} {first_a2 : Option Nat} {second_a2 : Option Nat} {entries_a2 : Int32} {number_a1 : Int32} {row_a1 : Int32} {first_a1 : Option Nat} {second_a1 : Option Nat} {entries_a1 : Int32} (e_a2 : h a2 = some (.inr (10, [.int number_a2, .int row_a2, va_rf first_a2, va_rf second_a2, .int entries_a2]))) (e_a1 : h a1 = some (.inr (10, [.int number_a1, .int row_a1, va_rf first_a1, va_rf second_a1, .int entries_a1]))) (kt : ¬ number_a2 = number_a1 → xw G m_Store_gatherLive F L bc bs pr px 29 [some (.ref a0), some (.ref a1), none, none] [] h) (kf : number_a2 = number_a1 → xw G m_Store_gatherLive F L bc bs pr px 25 [some (.ref a0), some (.ref a1), none, none] [] h) : xw G m_Store_gatherLive F L bc bs pr px 14 [some (.ref a0), some (.ref a1), some (.ref a2), none] [] h := by
  refine x_aload_n d_Store_gatherLive_14 rfl rfl ?_
  refine x_get d_Store_gatherLive_15 f_Store_92 e_a2 rfl ?_
  refine x_aload_n d_Store_gatherLive_18 rfl rfl ?_
  refine x_get d_Store_gatherLive_19 f_Store_92 e_a1 rfl ?_
  refine x_icmp_ne (tgt := 29) d_Store_gatherLive_22 (by decide) (fun hc => ?_) (fun hc => ?_)
  · exact x_le (lv' := [some (.ref a0), some (.ref a1), none, none]) (xw_le_s (xw_le_s (xw_le_n (xw_le_n xw_le_e)))) (kt hc)
  · exact x_le (lv' := [some (.ref a0), some (.ref a1), none, none]) (xw_le_s (xw_le_s (xw_le_n (xw_le_n xw_le_e)))) (kf hc)
theorem s_Store_gatherLive_25 {G : xw_G} {F L bc bs : Nat} {pr : Option Value → xw_A → Prop} {px : String → xw_A → Prop} {h : xw_A} {a0 : Nat} {a1 : Nat}  (k : xw G m_Store_gatherLive F L bc bs pr px 30 [some (.ref a0), some (.ref a1), none, none] [.int 1] h) : xw G m_Store_gatherLive F L bc bs pr px 25 [some (.ref a0), some (.ref a1), none, none] [] h := by
  refine x_iconst (v := 1) d_Store_gatherLive_25 (by decide) ?_
  refine x_goto (tgt := 30) d_Store_gatherLive_26 (by decide) ?_
  exact k
theorem s_Store_gatherLive_29 {G : xw_G} {F L bc bs : Nat} {pr : Option Value → xw_A → Prop} {px : String → xw_A → Prop} {h : xw_A} {a0 : Nat} {a1 : Nat}  (k : xw G m_Store_gatherLive F L bc bs pr px 30 [some (.ref a0), some (.ref a1), none, none] [.int 0] h) : xw G m_Store_gatherLive F L bc bs pr px 29 [some (.ref a0), some (.ref a1), none, none] [] h := by
  refine x_iconst (v := 0) d_Store_gatherLive_29 (by decide) ?_
  exact k
theorem s_Store_gatherLive_30 {G : xw_G} {F L bc bs : Nat} {pr : Option Value → xw_A → Prop} {px : String → xw_A → Prop} {h : xw_A} {a0 : Nat} {a1 : Nat} {y0 : Int32}  (kt : y0 = 0 → xw G m_Store_gatherLive F L bc bs pr px 67 [none, none, none, none] [] h) (kf : ¬ y0 = 0 → xw G m_Store_gatherLive F L bc bs pr px 35 [some (.ref a0), some (.ref a1), none, none] [] h) : xw G m_Store_gatherLive F L bc bs pr px 30 [some (.ref a0), some (.ref a1), none, none] [.int y0] h := by
  refine x_istore_n d_Store_gatherLive_30 rfl (by decide) trivial ?_
  show xw G m_Store_gatherLive F L bc bs pr px 31 [some (.ref a0), some (.ref a1), none, some (.int y0)] [] h
  refine x_iload_n d_Store_gatherLive_31 rfl rfl ?_
  refine x_if_eq (tgt := 67) d_Store_gatherLive_32 (by decide) (fun hc => ?_) (fun hc => ?_)
  · exact x_le (lv' := [none, none, none, none]) (xw_le_n (xw_le_n (xw_le_n (xw_le_n xw_le_e)))) (kt hc)
  · exact x_le (lv' := [some (.ref a0), some (.ref a1), none, none]) (xw_le_s (xw_le_s (xw_le_n (xw_le_n xw_le_e)))) (kf hc)
theorem s_Store_gatherLive_35 {G : xw_G} {F L bc bs : Nat} {pr : Option Value → xw_A → Prop} {px : String → xw_A → Prop} {h : xw_A} {a0 : Nat} {a1 : Nat} {rows_a0 : Option Nat} {pending_a0 : Option Nat} {segments_a0 : Option Nat} {live_a0 : Nat} {pendingCount_a0 : Int32} {pendingEntries_a0 : Int32} {segmentCount_a0 : Int32} {versionsMade_a0 : Int32} {segmentsMade_a0 : Int32} {liveCount_a0 : Int32} {n_live_a0 : Nat} {f_live_a0 : Nat → Option Nat} (e_a0 : h a0 = some (.inr (8, [va_rf rows_a0, va_rf pending_a0, va_rf segments_a0, .ref live_a0, .int pendingCount_a0, .int pendingEntries_a0, .int segmentCount_a0, .int versionsMade_a0, .int segmentsMade_a0, .int liveCount_a0]))) (e_live_a0 : h live_a0 = some (.inl (10 + 6, n_live_a0, .inr (.inr (.inr (.inr f_live_a0)))))) (kt : (Int32.ofNat n_live_a0) ≤ liveCount_a0 → xw G m_Store_gatherLive F L bc bs pr px 67 [none, none, none, none] [] h) (kf : ¬ (Int32.ofNat n_live_a0) ≤ liveCount_a0 → xw G m_Store_gatherLive F L bc bs pr px 47 [some (.ref a0), some (.ref a1), none, none] [] h) : xw G m_Store_gatherLive F L bc bs pr px 35 [some (.ref a0), some (.ref a1), none, none] [] h := by
  refine x_aload_n d_Store_gatherLive_35 rfl rfl ?_
  refine x_get d_Store_gatherLive_36 f_Store_51 e_a0 rfl ?_
  refine x_aload_n d_Store_gatherLive_39 rfl rfl ?_
  refine x_get d_Store_gatherLive_40 f_Store_26 e_a0 rfl ?_
  refine x_alen d_Store_gatherLive_43 e_live_a0 rfl ?_
  refine x_icmp_ge (tgt := 67) d_Store_gatherLive_44 (by decide) (fun hc => ?_) (fun hc => ?_)
  · exact x_le (lv' := [none, none, none, none]) (xw_le_n (xw_le_n (xw_le_n (xw_le_n xw_le_e)))) (kt hc)
  · exact kf hc
theorem s_Store_gatherLive_47 {G : xw_G} {F L bc bs : Nat} {pr : Option Value → xw_A → Prop} {px : String → xw_A → Prop} {h : xw_A} {a0 : Nat} {a1 : Nat} {rows_a0 : Option Nat} {pending_a0 : Option Nat} {segments_a0 : Option Nat} {live_a0 : Nat} {pendingCount_a0 : Int32} {pendingEntries_a0 : Int32} {segmentCount_a0 : Int32} {versionsMade_a0 : Int32} {segmentsMade_a0 : Int32} {liveCount_a0 : Int32} {n_live_a0 : Nat} {f_live_a0 : Nat → Option Nat} {number_a1 : Int32} {row_a1 : Int32} {first_a1 : Option Nat} {second_a1 : Option Nat} {entries_a1 : Int32} (e_a0 : h a0 = some (.inr (8, [va_rf rows_a0, va_rf pending_a0, va_rf segments_a0, .ref live_a0, .int pendingCount_a0, .int pendingEntries_a0, .int segmentCount_a0, .int versionsMade_a0, .int segmentsMade_a0, .int liveCount_a0]))) (e_live_a0 : h live_a0 = some (.inl (10 + 6, n_live_a0, .inr (.inr (.inr (.inr f_live_a0)))))) (i_56 : vp_in liveCount_a0 n_live_a0) (e_a1 : h a1 = some (.inr (10, [.int number_a1, .int row_a1, va_rf first_a1, va_rf second_a1, .int entries_a1]))) (k : xw G m_Store_gatherLive F L bc bs pr px 67 [none, none, none, none] [] (xw_up (xw_up h live_a0 (.inl (10 + 6, n_live_a0, .inr (.inr (.inr (.inr (va_up f_live_a0 liveCount_a0.toNatClampNeg (some a1)))))))) a0 (.inr (8, [va_rf rows_a0, va_rf pending_a0, va_rf segments_a0, .ref live_a0, .int pendingCount_a0, .int pendingEntries_a0, .int segmentCount_a0, .int versionsMade_a0, .int segmentsMade_a0, .int (liveCount_a0 + 1)])))) : xw G m_Store_gatherLive F L bc bs pr px 47 [some (.ref a0), some (.ref a1), none, none] [] h := by
  refine x_aload_n d_Store_gatherLive_47 rfl rfl ?_
  refine x_get d_Store_gatherLive_48 f_Store_26 e_a0 rfl ?_
  refine x_aload_n d_Store_gatherLive_51 rfl rfl ?_
  refine x_get d_Store_gatherLive_52 f_Store_51 e_a0 rfl ?_
  refine x_aload_n d_Store_gatherLive_55 rfl rfl ?_
  refine x_aast d_Store_gatherLive_56 (by decide) e_live_a0 e_a1 i_56 ?_
  refine x_aload_n d_Store_gatherLive_57 rfl rfl ?_
  refine x_dup d_Store_gatherLive_58 rfl ?_
  refine x_get d_Store_gatherLive_59 f_Store_51 ((xw_up_n _ _ (xw_ne e_a0 e_live_a0 (by simp))).trans e_a0) rfl ?_
  refine x_iconst (v := 1) d_Store_gatherLive_62 (by decide) ?_
  refine x_iadd d_Store_gatherLive_63 ?_
  refine x_put (ty := .int) d_Store_gatherLive_64 f_Store_51 fw_Store_9.1 fw_Store_9.2 rfl rfl (Nat.le_of_ble_eq_true rfl) ((xw_up_n _ _ (xw_ne e_a0 e_live_a0 (by simp))).trans e_a0) ?_
  show xw G m_Store_gatherLive F L bc bs pr px 67 [some (.ref a0), some (.ref a1), none, none] [] (xw_up (xw_up h live_a0 (.inl (10 + 6, n_live_a0, .inr (.inr (.inr (.inr (va_up f_live_a0 liveCount_a0.toNatClampNeg (some a1)))))))) a0 (.inr (8, [va_rf rows_a0, va_rf pending_a0, va_rf segments_a0, .ref live_a0, .int pendingCount_a0, .int pendingEntries_a0, .int segmentCount_a0, .int versionsMade_a0, .int segmentsMade_a0, .int (liveCount_a0 + 1)])))
  exact x_le (lv' := [none, none, none, none]) (xw_le_n (xw_le_n (xw_le_n (xw_le_n xw_le_e)))) (k)
theorem s_Store_gatherLive_67 {G : xw_G} {F L bc bs : Nat} {pr : Option Value → xw_A → Prop} {px : String → xw_A → Prop} {h : xw_A}   (kr : pr none h) : xw G m_Store_gatherLive F L bc bs pr px 67 [none, none, none, none] [] h := by
  exact x_vret d_Store_gatherLive_67 rfl kr
theorem s_Store_addSegment_0 {G : xw_G} {F L bc bs : Nat} {pr : Option Value → xw_A → Prop} {px : String → xw_A → Prop} {h : xw_A} {a0 : Nat} {x1 : Int32} {rows_a0 : Option Nat} {pending_a0 : Option Nat} {segments_a0 : Option Nat} {live_a0 : Option Nat} {pendingCount_a0 : Int32} {pendingEntries_a0 : Int32} {segmentCount_a0 : Int32} {versionsMade_a0 : Int32} {segmentsMade_a0 : Int32} {liveCount_a0 : Int32} (e_a0 : h a0 = some (.inr (8, [va_rf rows_a0, va_rf pending_a0, va_rf segments_a0, va_rf live_a0, .int pendingCount_a0, .int pendingEntries_a0, .int segmentCount_a0, .int versionsMade_a0, .int segmentsMade_a0, .int liveCount_a0]))) (kt : liveCount_a0 ≤ 0 → xw G m_Store_addSegment F L bc bs pr px 62 [none, none] [] h) (kf : ¬ liveCount_a0 ≤ 0 → xw G m_Store_addSegment F L bc bs pr px 7 [some (.ref a0), some (.int x1)] [] h) : xw G m_Store_addSegment F L bc bs pr px 0 [some (.ref a0), some (.int x1)] [] h := by
  refine x_aload_n d_Store_addSegment_0 rfl rfl ?_
  refine x_get d_Store_addSegment_1 f_Store_51 e_a0 rfl ?_
  refine x_if_le (tgt := 62) d_Store_addSegment_4 (by decide) (fun hc => ?_) (fun hc => ?_)
  · exact x_le (lv' := [none, none]) (xw_le_n (xw_le_n xw_le_e)) (kt hc)
  · exact kf hc
theorem s_Store_addSegment_7 {G : xw_G} {F L bc bs : Nat} {pr : Option Value → xw_A → Prop} {px : String → xw_A → Prop} {h : xw_A} {a0 : Nat} {x1 : Int32} {rows_a0 : Option Nat} {pending_a0 : Option Nat} {segments_a0 : Option Nat} {live_a0 : Option Nat} {pendingCount_a0 : Int32} {pendingEntries_a0 : Int32} {segmentCount_a0 : Int32} {versionsMade_a0 : Int32} {segmentsMade_a0 : Int32} {liveCount_a0 : Int32} (e_a0 : h a0 = some (.inr (8, [va_rf rows_a0, va_rf pending_a0, va_rf segments_a0, va_rf live_a0, .int pendingCount_a0, .int pendingEntries_a0, .int segmentCount_a0, .int versionsMade_a0, .int segmentsMade_a0, .int liveCount_a0]))) (kt : 512 ≤ segmentCount_a0 → xw G m_Store_addSegment F L bc bs pr px 62 [none, none] [] h) (kf : ¬ 512 ≤ segmentCount_a0 → xw G m_Store_addSegment F L bc bs pr px 17 [some (.ref a0), some (.int x1)] [] h) : xw G m_Store_addSegment F L bc bs pr px 7 [some (.ref a0), some (.int x1)] [] h := by
  refine x_aload_n d_Store_addSegment_7 rfl rfl ?_
  refine x_get d_Store_addSegment_8 f_Store_70 e_a0 rfl ?_
  refine x_sipush (v := 512) d_Store_addSegment_11 (by decide) ?_
  refine x_icmp_ge (tgt := 62) d_Store_addSegment_14 (by decide) (fun hc => ?_) (fun hc => ?_)
  · exact x_le (lv' := [none, none]) (xw_le_n (xw_le_n xw_le_e)) (kt hc)
  · exact kf hc
theorem s_Store_addSegment_17 {G : xw_G} {F L bc bs : Nat} {pr : Option Value → xw_A → Prop} {px : String → xw_A → Prop} {h : xw_A} {a0 : Nat} {x1 : Int32} {rows_a0 : Option Nat} {pending_a0 : Option Nat} {segments_a0 : Option Nat} {live_a0 : Option Nat} {pendingCount_a0 : Int32} {pendingEntries_a0 : Int32} {segmentCount_a0 : Int32} {versionsMade_a0 : Int32} {segmentsMade_a0 : Int32} {liveCount_a0 : Int32} (e_a0 : h a0 = some (.inr (8, [va_rf rows_a0, va_rf pending_a0, va_rf segments_a0, va_rf live_a0, .int pendingCount_a0, .int pendingEntries_a0, .int segmentCount_a0, .int versionsMade_a0, .int segmentsMade_a0, .int liveCount_a0]))) (u_25 : 1 ≤ bc ∧ 3 ≤ bs) (k : ∀ q25 : Nat, h q25 = none → xw G m_Store_addSegment F L (bc - 1) (bs - 3) pr px 38 [some (.ref a0), some (.int x1)] [.int liveCount_a0, va_rf live_a0, .int x1, .ref q25, .ref q25, .int segmentCount_a0, va_rf segments_a0] (xw_up h q25 (.inr (6, [.int 0, .null, .int 0])))) : xw G m_Store_addSegment F L bc bs pr px 17 [some (.ref a0), some (.int x1)] [] h := by
  refine x_aload_n d_Store_addSegment_17 rfl rfl ?_
  refine x_get d_Store_addSegment_18 f_Store_22 e_a0 rfl ?_
  refine x_aload_n d_Store_addSegment_21 rfl rfl ?_
  refine x_get d_Store_addSegment_22 f_Store_70 e_a0 rfl ?_
  refine x_new (ci := 6) (fs := [.int 0, .null, .int 0]) d_Store_addSegment_25 (by decide) nw_Store_20.1 nw_Store_20.2.1 nw_Store_20.2.2 df_Segment u_25 (fun q25 hq25 => ?_)
  show xw G m_Store_addSegment F L (bc - 1) (bs - 3) pr px 28 [some (.ref a0), some (.int x1)] [.ref q25, .int segmentCount_a0, va_rf segments_a0] (xw_up h q25 (.inr (6, [.int 0, .null, .int 0])))
  refine x_dup d_Store_addSegment_28 rfl ?_
  refine x_iload_n d_Store_addSegment_29 rfl rfl ?_
  refine x_aload_n d_Store_addSegment_30 rfl rfl ?_
  refine x_get d_Store_addSegment_31 f_Store_26 ((xw_up_n _ _ (xw_neN e_a0 hq25)).trans e_a0) rfl ?_
  refine x_aload_n d_Store_addSegment_34 rfl rfl ?_
  refine x_get d_Store_addSegment_35 f_Store_51 ((xw_up_n _ _ (xw_neN e_a0 hq25)).trans e_a0) rfl ?_
  exact (k q25 hq25)
theorem s_Store_addSegment_41 {G : xw_G} {F L bc bs : Nat} {pr : Option Value → xw_A → Prop} {px : String → xw_A → Prop} {h : xw_A} {a0 : Nat} {b0 : Nat} {y1 : Int32} {b2 : Nat} {n_b2 : Nat} {f_b2 : Nat → Option Nat} {level_b0 : Int32} {versions_b0 : Option Nat} {entries_b0 : Int32} {rows_a0 : Option Nat} {pending_a0 : Option Nat} {segments_a0 : Option Nat} {live_a0 : Option Nat} {pendingCount_a0 : Int32} {pendingEntries_a0 : Int32} {segmentCount_a0 : Int32} {versionsMade_a0 : Int32} {segmentsMade_a0 : Int32} {liveCount_a0 : Int32} (e_b2 : h b2 = some (.inl (6 + 6, n_b2, .inr (.inr (.inr (.inr f_b2)))))) (i_41 : vp_in y1 n_b2) (e_b0 : h b0 = some (.inr (6, [.int level_b0, va_rf versions_b0, .int entries_b0]))) (e_a0 : h a0 = some (.inr (8, [va_rf rows_a0, va_rf pending_a0, va_rf segments_a0, va_rf live_a0, .int pendingCount_a0, .int pendingEntries_a0, .int segmentCount_a0, .int versionsMade_a0, .int segmentsMade_a0, .int liveCount_a0]))) (k : xw G m_Store_addSegment F L bc bs pr px 62 [none, none] [] (xw_up (xw_up (xw_up h b2 (.inl (6 + 6, n_b2, .inr (.inr (.inr (.inr (va_up f_b2 y1.toNatClampNeg (some b0)))))))) a0 (.inr (8, [va_rf rows_a0, va_rf pending_a0, va_rf segments_a0, va_rf live_a0, .int pendingCount_a0, .int pendingEntries_a0, .int (segmentCount_a0 + 1), .int versionsMade_a0, .int segmentsMade_a0, .int liveCount_a0]))) a0 (.inr (8, [va_rf rows_a0, va_rf pending_a0, va_rf segments_a0, va_rf live_a0, .int pendingCount_a0, .int pendingEntries_a0, .int (segmentCount_a0 + 1), .int versionsMade_a0, .int (segmentsMade_a0 + 1), .int liveCount_a0])))) : xw G m_Store_addSegment F L bc bs pr px 41 [some (.ref a0), none] [.ref b0, .int y1, .ref b2] h := by
  refine x_aast d_Store_addSegment_41 (by decide) e_b2 e_b0 i_41 ?_
  refine x_aload_n d_Store_addSegment_42 rfl rfl ?_
  refine x_dup d_Store_addSegment_43 rfl ?_
  refine x_get d_Store_addSegment_44 f_Store_70 ((xw_up_n _ _ (xw_ne e_a0 e_b2 (by simp))).trans e_a0) rfl ?_
  refine x_iconst (v := 1) d_Store_addSegment_47 (by decide) ?_
  refine x_iadd d_Store_addSegment_48 ?_
  refine x_put (ty := .int) d_Store_addSegment_49 f_Store_70 fw_Store_6.1 fw_Store_6.2 rfl rfl (Nat.le_of_ble_eq_true rfl) ((xw_up_n _ _ (xw_ne e_a0 e_b2 (by simp))).trans e_a0) ?_
  show xw G m_Store_addSegment F L bc bs pr px 52 [some (.ref a0), none] [] (xw_up (xw_up h b2 (.inl (6 + 6, n_b2, .inr (.inr (.inr (.inr (va_up f_b2 y1.toNatClampNeg (some b0)))))))) a0 (.inr (8, [va_rf rows_a0, va_rf pending_a0, va_rf segments_a0, va_rf live_a0, .int pendingCount_a0, .int pendingEntries_a0, .int (segmentCount_a0 + 1), .int versionsMade_a0, .int segmentsMade_a0, .int liveCount_a0])))
  refine x_aload_n d_Store_addSegment_52 rfl rfl ?_
  refine x_dup d_Store_addSegment_53 rfl ?_
  refine x_get d_Store_addSegment_54 f_Store_98 (xw_up_s _ _ _) rfl ?_
  refine x_iconst (v := 1) d_Store_addSegment_57 (by decide) ?_
  refine x_iadd d_Store_addSegment_58 ?_
  refine x_put (ty := .int) d_Store_addSegment_59 f_Store_98 fw_Store_8.1 fw_Store_8.2 rfl rfl (Nat.le_of_ble_eq_true rfl) (xw_up_s _ _ _) ?_
  show xw G m_Store_addSegment F L bc bs pr px 62 [some (.ref a0), none] [] (xw_up (xw_up (xw_up h b2 (.inl (6 + 6, n_b2, .inr (.inr (.inr (.inr (va_up f_b2 y1.toNatClampNeg (some b0)))))))) a0 (.inr (8, [va_rf rows_a0, va_rf pending_a0, va_rf segments_a0, va_rf live_a0, .int pendingCount_a0, .int pendingEntries_a0, .int (segmentCount_a0 + 1), .int versionsMade_a0, .int segmentsMade_a0, .int liveCount_a0]))) a0 (.inr (8, [va_rf rows_a0, va_rf pending_a0, va_rf segments_a0, va_rf live_a0, .int pendingCount_a0, .int pendingEntries_a0, .int (segmentCount_a0 + 1), .int versionsMade_a0, .int (segmentsMade_a0 + 1), .int liveCount_a0])))
  exact x_le (lv' := [none, none]) (xw_le_n (xw_le_n xw_le_e)) (k)
theorem s_Store_addSegment_62 {G : xw_G} {F L bc bs : Nat} {pr : Option Value → xw_A → Prop} {px : String → xw_A → Prop} {h : xw_A}   (kr : pr none h) : xw G m_Store_addSegment F L bc bs pr px 62 [none, none] [] h := by
  exact x_vret d_Store_addSegment_62 rfl kr
theorem s_Store_segmentsOf_0 {G : xw_G} {F L bc bs : Nat} {pr : Option Value → xw_A → Prop} {px : String → xw_A → Prop} {h : xw_A} {a0 : Nat} {x1 : Int32}  (k : xw G m_Store_segmentsOf F L bc bs pr px 4 [some (.ref a0), some (.int x1), some (.int 0), some (.int 0)] [] h) : xw G m_Store_segmentsOf F L bc bs pr px 0 [some (.ref a0), some (.int x1), none, none] [] h := by
  refine x_iconst (v := 0) d_Store_segmentsOf_0 (by decide) ?_
  refine x_istore_n d_Store_segmentsOf_1 rfl (by decide) rfl ?_
  show xw G m_Store_segmentsOf F L bc bs pr px 2 [some (.ref a0), some (.int x1), some (.int 0), none] [] h
  refine x_iconst (v := 0) d_Store_segmentsOf_2 (by decide) ?_
  refine x_istore_n d_Store_segmentsOf_3 rfl (by decide) rfl ?_
  show xw G m_Store_segmentsOf F L bc bs pr px 4 [some (.ref a0), some (.int x1), some (.int 0), some (.int 0)] [] h
  exact k
theorem s_Store_segmentsOf_4 {G : xw_G} {F L bc bs : Nat} {pr : Option Value → xw_A → Prop} {px : String → xw_A → Prop} {h : xw_A} {a0 : Nat} {x1 : Int32} {x2 : Int32} {x3 : Int32} {rows_a0 : Option Nat} {pending_a0 : Option Nat} {segments_a0 : Option Nat} {live_a0 : Option Nat} {pendingCount_a0 : Int32} {pendingEntries_a0 : Int32} {segmentCount_a0 : Int32} {versionsMade_a0 : Int32} {segmentsMade_a0 : Int32} {liveCount_a0 : Int32} (e_a0 : h a0 = some (.inr (8, [va_rf rows_a0, va_rf pending_a0, va_rf segments_a0, va_rf live_a0, .int pendingCount_a0, .int pendingEntries_a0, .int segmentCount_a0, .int versionsMade_a0, .int segmentsMade_a0, .int liveCount_a0]))) (kt : segmentCount_a0 ≤ x3 → xw G m_Store_segmentsOf F L bc bs pr px 34 [none, none, some (.int x2), none] [] h) (kf : ¬ segmentCount_a0 ≤ x3 → xw G m_Store_segmentsOf F L bc bs pr px 12 [some (.ref a0), some (.int x1), some (.int x2), some (.int x3)] [] h) : xw G m_Store_segmentsOf F L bc bs pr px 4 [some (.ref a0), some (.int x1), some (.int x2), some (.int x3)] [] h := by
  refine x_iload_n d_Store_segmentsOf_4 rfl rfl ?_
  refine x_aload_n d_Store_segmentsOf_5 rfl rfl ?_
  refine x_get d_Store_segmentsOf_6 f_Store_70 e_a0 rfl ?_
  refine x_icmp_ge (tgt := 34) d_Store_segmentsOf_9 (by decide) (fun hc => ?_) (fun hc => ?_)
  · exact x_le (lv' := [none, none, some (.int x2), none]) (xw_le_n (xw_le_n (xw_le_s (xw_le_n xw_le_e)))) (kt hc)
  · exact kf hc
theorem s_Store_segmentsOf_12 {G : xw_G} {F L bc bs : Nat} {pr : Option Value → xw_A → Prop} {px : String → xw_A → Prop} {h : xw_A} {a0 : Nat} {x1 : Int32} {x2 : Int32} {x3 : Int32} {rows_a0 : Option Nat} {pending_a0 : Option Nat} {segments_a0 : Nat} {live_a0 : Option Nat} {pendingCount_a0 : Int32} {pendingEntries_a0 : Int32} {segmentCount_a0 : Int32} {versionsMade_a0 : Int32} {segmentsMade_a0 : Int32} {liveCount_a0 : Int32} {n_segments_a0 : Nat} {f_segments_a0 : Nat → Option Nat} {g17 : Nat} {level_g17 : Int32} {versions_g17 : Option Nat} {entries_g17 : Int32} (e_a0 : h a0 = some (.inr (8, [va_rf rows_a0, va_rf pending_a0, .ref segments_a0, va_rf live_a0, .int pendingCount_a0, .int pendingEntries_a0, .int segmentCount_a0, .int versionsMade_a0, .int segmentsMade_a0, .int liveCount_a0]))) (e_segments_a0 : h segments_a0 = some (.inl (6 + 6, n_segments_a0, .inr (.inr (.inr (.inr f_segments_a0)))))) (i_17 : vp_in x3 n_segments_a0) (g_17 : f_segments_a0 x3.toNatClampNeg = some g17) (e_g17 : h g17 = some (.inr (6, [.int level_g17, va_rf versions_g17, .int entries_g17]))) (kt : ¬ level_g17 = x1 → xw G m_Store_segmentsOf F L bc bs pr px 28 [some (.ref a0), some (.int x1), some (.int x2), some (.int x3)] [] h) (kf : level_g17 = x1 → xw G m_Store_segmentsOf F L bc bs pr px 25 [some (.ref a0), some (.int x1), some (.int x2), some (.int x3)] [] h) : xw G m_Store_segmentsOf F L bc bs pr px 12 [some (.ref a0), some (.int x1), some (.int x2), some (.int x3)] [] h := by
  refine x_aload_n d_Store_segmentsOf_12 rfl rfl ?_
  refine x_get d_Store_segmentsOf_13 f_Store_22 e_a0 rfl ?_
  refine x_iload_n d_Store_segmentsOf_16 rfl rfl ?_
  refine x_aald (v := .ref g17) d_Store_segmentsOf_17 e_segments_a0 i_17 (by rw [g_17]; rfl) ?_
  refine x_get d_Store_segmentsOf_18 f_Store_73 e_g17 rfl ?_
  refine x_iload_n d_Store_segmentsOf_21 rfl rfl ?_
  refine x_icmp_ne (tgt := 28) d_Store_segmentsOf_22 (by decide) (fun hc => ?_) (fun hc => ?_)
  · exact kt hc
  · exact kf hc
theorem s_Store_segmentsOf_25 {G : xw_G} {F L bc bs : Nat} {pr : Option Value → xw_A → Prop} {px : String → xw_A → Prop} {h : xw_A} {a0 : Nat} {x1 : Int32} {x2 : Int32} {x3 : Int32}  (k : xw G m_Store_segmentsOf F L bc bs pr px 28 [some (.ref a0), some (.int x1), some (.int (x2 + 1)), some (.int x3)] [] h) : xw G m_Store_segmentsOf F L bc bs pr px 25 [some (.ref a0), some (.int x1), some (.int x2), some (.int x3)] [] h := by
  refine x_iinc (v := x2 + 1) d_Store_segmentsOf_25 rfl (by rfl) (by decide) rfl ?_
  show xw G m_Store_segmentsOf F L bc bs pr px 28 [some (.ref a0), some (.int x1), some (.int (x2 + 1)), some (.int x3)] [] h
  exact k
theorem s_Store_segmentsOf_28 {G : xw_G} {F L bc bs : Nat} {pr : Option Value → xw_A → Prop} {px : String → xw_A → Prop} {h : xw_A} {a0 : Nat} {x1 : Int32} {x2 : Int32} {x3 : Int32}  (k : xw G m_Store_segmentsOf F L bc bs pr px 4 [some (.ref a0), some (.int x1), some (.int x2), some (.int (x3 + 1))] [] h) : xw G m_Store_segmentsOf F L bc bs pr px 28 [some (.ref a0), some (.int x1), some (.int x2), some (.int x3)] [] h := by
  refine x_iinc (v := x3 + 1) d_Store_segmentsOf_28 rfl (by rfl) (by decide) rfl ?_
  show xw G m_Store_segmentsOf F L bc bs pr px 31 [some (.ref a0), some (.int x1), some (.int x2), some (.int (x3 + 1))] [] h
  refine x_goto (tgt := 4) d_Store_segmentsOf_31 (by decide) ?_
  exact k
theorem s_Store_segmentsOf_34 {G : xw_G} {F L bc bs : Nat} {pr : Option Value → xw_A → Prop} {px : String → xw_A → Prop} {h : xw_A} {x2 : Int32}  (kr : pr (some (.int x2)) h) : xw G m_Store_segmentsOf F L bc bs pr px 34 [none, none, some (.int x2), none] [] h := by
  refine x_iload_n d_Store_segmentsOf_34 rfl rfl ?_
  exact x_iret d_Store_segmentsOf_35 rfl kr
theorem s_Store_mergeLevels_0 {G : xw_G} {F L bc bs : Nat} {pr : Option Value → xw_A → Prop} {px : String → xw_A → Prop} {h : xw_A} {a0 : Nat} {x1 : Int32} {x2 : Int32} {x3 : Int32} {rows_a0 : Option Nat} {pending_a0 : Option Nat} {segments_a0 : Option Nat} {live_a0 : Option Nat} {pendingCount_a0 : Int32} {pendingEntries_a0 : Int32} {segmentCount_a0 : Int32} {versionsMade_a0 : Int32} {segmentsMade_a0 : Int32} {liveCount_a0 : Int32} (e_a0 : h a0 = some (.inr (8, [va_rf rows_a0, va_rf pending_a0, va_rf segments_a0, va_rf live_a0, .int pendingCount_a0, .int pendingEntries_a0, .int segmentCount_a0, .int versionsMade_a0, .int segmentsMade_a0, .int liveCount_a0]))) (k : xw G m_Store_mergeLevels F L bc bs pr px 11 [some (.ref a0), some (.int x1), some (.int x2), some (.int x3), some (.int 0), some (.int 0), none] [] (xw_up h a0 (.inr (8, [va_rf rows_a0, va_rf pending_a0, va_rf segments_a0, va_rf live_a0, .int pendingCount_a0, .int pendingEntries_a0, .int segmentCount_a0, .int versionsMade_a0, .int segmentsMade_a0, .int 0])))) : xw G m_Store_mergeLevels F L bc bs pr px 0 [some (.ref a0), some (.int x1), some (.int x2), some (.int x3), none, none, none] [] h := by
  refine x_aload_n d_Store_mergeLevels_0 rfl rfl ?_
  refine x_iconst (v := 0) d_Store_mergeLevels_1 (by decide) ?_
  refine x_put (ty := .int) d_Store_mergeLevels_2 f_Store_51 fw_Store_9.1 fw_Store_9.2 rfl rfl (Nat.le_of_ble_eq_true rfl) e_a0 ?_
  show xw G m_Store_mergeLevels F L bc bs pr px 5 [some (.ref a0), some (.int x1), some (.int x2), some (.int x3), none, none, none] [] (xw_up h a0 (.inr (8, [va_rf rows_a0, va_rf pending_a0, va_rf segments_a0, va_rf live_a0, .int pendingCount_a0, .int pendingEntries_a0, .int segmentCount_a0, .int versionsMade_a0, .int segmentsMade_a0, .int 0])))
  refine x_iconst (v := 0) d_Store_mergeLevels_5 (by decide) ?_
  refine x_istore d_Store_mergeLevels_6 (by decide) rfl ?_
  show xw G m_Store_mergeLevels F L bc bs pr px 8 [some (.ref a0), some (.int x1), some (.int x2), some (.int x3), some (.int 0), none, none] [] (xw_up h a0 (.inr (8, [va_rf rows_a0, va_rf pending_a0, va_rf segments_a0, va_rf live_a0, .int pendingCount_a0, .int pendingEntries_a0, .int segmentCount_a0, .int versionsMade_a0, .int segmentsMade_a0, .int 0])))
  refine x_iconst (v := 0) d_Store_mergeLevels_8 (by decide) ?_
  refine x_istore d_Store_mergeLevels_9 (by decide) rfl ?_
  show xw G m_Store_mergeLevels F L bc bs pr px 11 [some (.ref a0), some (.int x1), some (.int x2), some (.int x3), some (.int 0), some (.int 0), none] [] (xw_up h a0 (.inr (8, [va_rf rows_a0, va_rf pending_a0, va_rf segments_a0, va_rf live_a0, .int pendingCount_a0, .int pendingEntries_a0, .int segmentCount_a0, .int versionsMade_a0, .int segmentsMade_a0, .int 0])))
  exact k
theorem s_Store_mergeLevels_11 {G : xw_G} {F L bc bs : Nat} {pr : Option Value → xw_A → Prop} {px : String → xw_A → Prop} {h : xw_A} {a0 : Nat} {x1 : Int32} {x2 : Int32} {x3 : Int32} {x4 : Int32} {x5 : Int32} {rows_a0 : Option Nat} {pending_a0 : Option Nat} {segments_a0 : Option Nat} {live_a0 : Option Nat} {pendingCount_a0 : Int32} {pendingEntries_a0 : Int32} {segmentCount_a0 : Int32} {versionsMade_a0 : Int32} {segmentsMade_a0 : Int32} {liveCount_a0 : Int32} (e_a0 : h a0 = some (.inr (8, [va_rf rows_a0, va_rf pending_a0, va_rf segments_a0, va_rf live_a0, .int pendingCount_a0, .int pendingEntries_a0, .int segmentCount_a0, .int versionsMade_a0, .int segmentsMade_a0, .int liveCount_a0]))) (kt : segmentCount_a0 ≤ x5 → xw G m_Store_mergeLevels F L bc bs pr px 74 [some (.ref a0), none, none, some (.int x3), some (.int x4), none, none] [] h) (kf : ¬ segmentCount_a0 ≤ x5 → xw G m_Store_mergeLevels F L bc bs pr px 20 [some (.ref a0), some (.int x1), some (.int x2), some (.int x3), some (.int x4), some (.int x5), none] [] h) : xw G m_Store_mergeLevels F L bc bs pr px 11 [some (.ref a0), some (.int x1), some (.int x2), some (.int x3), some (.int x4), some (.int x5), none] [] h := by
  refine x_iload d_Store_mergeLevels_11 rfl ?_
  refine x_aload_n d_Store_mergeLevels_13 rfl rfl ?_
  refine x_get d_Store_mergeLevels_14 f_Store_70 e_a0 rfl ?_
  refine x_icmp_ge (tgt := 74) d_Store_mergeLevels_17 (by decide) (fun hc => ?_) (fun hc => ?_)
  · exact x_le (lv' := [some (.ref a0), none, none, some (.int x3), some (.int x4), none, none]) (xw_le_s (xw_le_n (xw_le_n (xw_le_s (xw_le_s (xw_le_n (xw_le_n xw_le_e))))))) (kt hc)
  · exact kf hc
theorem s_Store_mergeLevels_20 {G : xw_G} {F L bc bs : Nat} {pr : Option Value → xw_A → Prop} {px : String → xw_A → Prop} {h : xw_A} {a0 : Nat} {x1 : Int32} {x2 : Int32} {x3 : Int32} {x4 : Int32} {x5 : Int32} {rows_a0 : Option Nat} {pending_a0 : Option Nat} {segments_a0 : Nat} {live_a0 : Option Nat} {pendingCount_a0 : Int32} {pendingEntries_a0 : Int32} {segmentCount_a0 : Int32} {versionsMade_a0 : Int32} {segmentsMade_a0 : Int32} {liveCount_a0 : Int32} {n_segments_a0 : Nat} {f_segments_a0 : Nat → Option Nat} {g26 : Nat} {level_g26 : Int32} {versions_g26 : Option Nat} {entries_g26 : Int32} (e_a0 : h a0 = some (.inr (8, [va_rf rows_a0, va_rf pending_a0, .ref segments_a0, va_rf live_a0, .int pendingCount_a0, .int pendingEntries_a0, .int segmentCount_a0, .int versionsMade_a0, .int segmentsMade_a0, .int liveCount_a0]))) (e_segments_a0 : h segments_a0 = some (.inl (6 + 6, n_segments_a0, .inr (.inr (.inr (.inr f_segments_a0)))))) (i_26 : vp_in x5 n_segments_a0) (g_26 : f_segments_a0 x5.toNatClampNeg = some g26) (e_g26 : h g26 = some (.inr (6, [.int level_g26, va_rf versions_g26, .int entries_g26]))) (kt : level_g26 < x1 → xw G m_Store_mergeLevels F L bc bs pr px 47 [some (.ref a0), some (.int x1), some (.int x2), some (.int x3), some (.int x4), some (.int x5), some (.ref g26)] [] h) (kf : ¬ level_g26 < x1 → xw G m_Store_mergeLevels F L bc bs pr px 38 [some (.ref a0), some (.int x1), some (.int x2), some (.int x3), some (.int x4), some (.int x5), some (.ref g26)] [] h) : xw G m_Store_mergeLevels F L bc bs pr px 20 [some (.ref a0), some (.int x1), some (.int x2), some (.int x3), some (.int x4), some (.int x5), none] [] h := by
  refine x_aload_n d_Store_mergeLevels_20 rfl rfl ?_
  refine x_get d_Store_mergeLevels_21 f_Store_22 e_a0 rfl ?_
  refine x_iload d_Store_mergeLevels_24 rfl ?_
  refine x_aald (v := .ref g26) d_Store_mergeLevels_26 e_segments_a0 i_26 (by rw [g_26]; rfl) ?_
  refine x_astore d_Store_mergeLevels_27 (by decide) rfl ?_
  show xw G m_Store_mergeLevels F L bc bs pr px 29 [some (.ref a0), some (.int x1), some (.int x2), some (.int x3), some (.int x4), some (.int x5), some (.ref g26)] [] h
  refine x_aload d_Store_mergeLevels_29 rfl ?_
  refine x_get d_Store_mergeLevels_31 f_Store_73 e_g26 rfl ?_
  refine x_iload_n d_Store_mergeLevels_34 rfl rfl ?_
  refine x_icmp_lt (tgt := 47) d_Store_mergeLevels_35 (by decide) (fun hc => ?_) (fun hc => ?_)
  · exact kt hc
  · exact kf hc
theorem s_Store_mergeLevels_38 {G : xw_G} {F L bc bs : Nat} {pr : Option Value → xw_A → Prop} {px : String → xw_A → Prop} {h : xw_A} {a0 : Nat} {x1 : Int32} {x2 : Int32} {x3 : Int32} {x4 : Int32} {x5 : Int32} {a6 : Nat} {level_a6 : Int32} {versions_a6 : Option Nat} {entries_a6 : Int32} (e_a6 : h a6 = some (.inr (6, [.int level_a6, va_rf versions_a6, .int entries_a6]))) (kt : level_a6 ≤ x2 → xw G m_Store_mergeLevels F L bc bs pr px 62 [some (.ref a0), some (.int x1), some (.int x2), some (.int x3), some (.int x4), some (.int x5), some (.ref a6)] [] h) (kf : ¬ level_a6 ≤ x2 → xw G m_Store_mergeLevels F L bc bs pr px 47 [some (.ref a0), some (.int x1), some (.int x2), some (.int x3), some (.int x4), some (.int x5), some (.ref a6)] [] h) : xw G m_Store_mergeLevels F L bc bs pr px 38 [some (.ref a0), some (.int x1), some (.int x2), some (.int x3), some (.int x4), some (.int x5), some (.ref a6)] [] h := by
  refine x_aload d_Store_mergeLevels_38 rfl ?_
  refine x_get d_Store_mergeLevels_40 f_Store_73 e_a6 rfl ?_
  refine x_iload_n d_Store_mergeLevels_43 rfl rfl ?_
  refine x_icmp_le (tgt := 62) d_Store_mergeLevels_44 (by decide) (fun hc => ?_) (fun hc => ?_)
  · exact kt hc
  · exact kf hc
theorem s_Store_mergeLevels_47 {G : xw_G} {F L bc bs : Nat} {pr : Option Value → xw_A → Prop} {px : String → xw_A → Prop} {h : xw_A} {a0 : Nat} {x1 : Int32} {x2 : Int32} {x3 : Int32} {x4 : Int32} {x5 : Int32} {a6 : Nat} {rows_a0 : Option Nat} {pending_a0 : Option Nat} {segments_a0 : Nat} {live_a0 : Option Nat} {pendingCount_a0 : Int32} {pendingEntries_a0 : Int32} {segmentCount_a0 : Int32} {versionsMade_a0 : Int32} {segmentsMade_a0 : Int32} {liveCount_a0 : Int32} {n_segments_a0 : Nat} {f_segments_a0 : Nat → Option Nat} {level_a6 : Int32} {versions_a6 : Option Nat} {entries_a6 : Int32} (e_a0 : h a0 = some (.inr (8, [va_rf rows_a0, va_rf pending_a0, .ref segments_a0, va_rf live_a0, .int pendingCount_a0, .int pendingEntries_a0, .int segmentCount_a0, .int versionsMade_a0, .int segmentsMade_a0, .int liveCount_a0]))) (e_segments_a0 : h segments_a0 = some (.inl (6 + 6, n_segments_a0, .inr (.inr (.inr (.inr f_segments_a0)))))) (i_55 : vp_in x4 n_segments_a0) (e_a6 : h a6 = some (.inr (6, [.int level_a6, va_rf versions_a6, .int entries_a6]))) (k : xw G m_Store_mergeLevels F L bc bs pr px 68 [some (.ref a0), some (.int x1), some (.int x2), some (.int x3), some (.int (x4 + 1)), some (.int x5), none] [] (xw_up h segments_a0 (.inl (6 + 6, n_segments_a0, .inr (.inr (.inr (.inr (va_up f_segments_a0 x4.toNatClampNeg (some a6))))))))) : xw G m_Store_mergeLevels F L bc bs pr px 47 [some (.ref a0), some (.int x1), some (.int x2), some (.int x3), some (.int x4), some (.int x5), some (.ref a6)] [] h := by
  refine x_aload_n d_Store_mergeLevels_47 rfl rfl ?_
  refine x_get d_Store_mergeLevels_48 f_Store_22 e_a0 rfl ?_
  refine x_iload d_Store_mergeLevels_51 rfl ?_
  refine x_aload d_Store_mergeLevels_53 rfl ?_
  refine x_aast d_Store_mergeLevels_55 (by decide) e_segments_a0 e_a6 i_55 ?_
  refine x_iinc (v := x4 + 1) d_Store_mergeLevels_56 rfl (by rfl) (by decide) rfl ?_
  show xw G m_Store_mergeLevels F L bc bs pr px 59 [some (.ref a0), some (.int x1), some (.int x2), some (.int x3), some (.int (x4 + 1)), some (.int x5), some (.ref a6)] [] (xw_up h segments_a0 (.inl (6 + 6, n_segments_a0, .inr (.inr (.inr (.inr (va_up f_segments_a0 x4.toNatClampNeg (some a6))))))))
  refine x_goto (tgt := 68) d_Store_mergeLevels_59 (by decide) ?_
  exact x_le (lv' := [some (.ref a0), some (.int x1), some (.int x2), some (.int x3), some (.int (x4 + 1)), some (.int x5), none]) (xw_le_s (xw_le_s (xw_le_s (xw_le_s (xw_le_s (xw_le_s (xw_le_n xw_le_e))))))) (k)
theorem s_Store_mergeLevels_62 {G : xw_G} {F L bc bs : Nat} {pr : Option Value → xw_A → Prop} {px : String → xw_A → Prop} {h : xw_A} {a0 : Nat} {x1 : Int32} {x2 : Int32} {x3 : Int32} {x4 : Int32} {x5 : Int32} {a6 : Nat}  (k : xw G m_Store_mergeLevels F L bc bs pr px 65 [some (.ref a0), some (.int x1), some (.int x2), some (.int x3), some (.int x4), some (.int x5), some (.ref a6)] [.ref a6, .ref a0] h) : xw G m_Store_mergeLevels F L bc bs pr px 62 [some (.ref a0), some (.int x1), some (.int x2), some (.int x3), some (.int x4), some (.int x5), some (.ref a6)] [] h := by
  refine x_aload_n d_Store_mergeLevels_62 rfl rfl ?_
  refine x_aload d_Store_mergeLevels_63 rfl ?_
  exact k
theorem s_Store_mergeLevels_68 {G : xw_G} {F L bc bs : Nat} {pr : Option Value → xw_A → Prop} {px : String → xw_A → Prop} {h : xw_A} {a0 : Nat} {x1 : Int32} {x2 : Int32} {x3 : Int32} {x4 : Int32} {x5 : Int32}  (k : xw G m_Store_mergeLevels F L bc bs pr px 11 [some (.ref a0), some (.int x1), some (.int x2), some (.int x3), some (.int x4), some (.int (x5 + 1)), none] [] h) : xw G m_Store_mergeLevels F L bc bs pr px 68 [some (.ref a0), some (.int x1), some (.int x2), some (.int x3), some (.int x4), some (.int x5), none] [] h := by
  refine x_iinc (v := x5 + 1) d_Store_mergeLevels_68 rfl (by rfl) (by decide) rfl ?_
  show xw G m_Store_mergeLevels F L bc bs pr px 71 [some (.ref a0), some (.int x1), some (.int x2), some (.int x3), some (.int x4), some (.int (x5 + 1)), none] [] h
  refine x_goto (tgt := 11) d_Store_mergeLevels_71 (by decide) ?_
  exact k
theorem s_Store_mergeLevels_74 {G : xw_G} {F L bc bs : Nat} {pr : Option Value → xw_A → Prop} {px : String → xw_A → Prop} {h : xw_A} {a0 : Nat} {x3 : Int32} {x4 : Int32} {rows_a0 : Option Nat} {pending_a0 : Option Nat} {segments_a0 : Option Nat} {live_a0 : Option Nat} {pendingCount_a0 : Int32} {pendingEntries_a0 : Int32} {segmentCount_a0 : Int32} {versionsMade_a0 : Int32} {segmentsMade_a0 : Int32} {liveCount_a0 : Int32} (e_a0 : h a0 = some (.inr (8, [va_rf rows_a0, va_rf pending_a0, va_rf segments_a0, va_rf live_a0, .int pendingCount_a0, .int pendingEntries_a0, .int segmentCount_a0, .int versionsMade_a0, .int segmentsMade_a0, .int liveCount_a0]))) (k : xw G m_Store_mergeLevels F L bc bs pr px 82 [some (.ref a0), none, none, some (.int x3), some (.int x4), none, none] [.int x3, .ref a0] (xw_up h a0 (.inr (8, [va_rf rows_a0, va_rf pending_a0, va_rf segments_a0, va_rf live_a0, .int pendingCount_a0, .int pendingEntries_a0, .int x4, .int versionsMade_a0, .int segmentsMade_a0, .int liveCount_a0])))) : xw G m_Store_mergeLevels F L bc bs pr px 74 [some (.ref a0), none, none, some (.int x3), some (.int x4), none, none] [] h := by
  refine x_aload_n d_Store_mergeLevels_74 rfl rfl ?_
  refine x_iload d_Store_mergeLevels_75 rfl ?_
  refine x_put (ty := .int) d_Store_mergeLevels_77 f_Store_70 fw_Store_6.1 fw_Store_6.2 rfl rfl (Nat.le_of_ble_eq_true rfl) e_a0 ?_
  show xw G m_Store_mergeLevels F L bc bs pr px 80 [some (.ref a0), none, none, some (.int x3), some (.int x4), none, none] [] (xw_up h a0 (.inr (8, [va_rf rows_a0, va_rf pending_a0, va_rf segments_a0, va_rf live_a0, .int pendingCount_a0, .int pendingEntries_a0, .int x4, .int versionsMade_a0, .int segmentsMade_a0, .int liveCount_a0])))
  refine x_aload_n d_Store_mergeLevels_80 rfl rfl ?_
  refine x_iload_n d_Store_mergeLevels_81 rfl rfl ?_
  exact k
theorem s_Store_mergeLevels_85 {G : xw_G} {F L bc bs : Nat} {pr : Option Value → xw_A → Prop} {px : String → xw_A → Prop} {h : xw_A}   (kr : pr none h) : xw G m_Store_mergeLevels F L bc bs pr px 85 [none, none, none, none, none, none, none] [] h := by
  exact x_vret d_Store_mergeLevels_85 rfl kr
theorem s_Store_gatherAllLive_0 {G : xw_G} {F L bc bs : Nat} {pr : Option Value → xw_A → Prop} {px : String → xw_A → Prop} {h : xw_A} {a0 : Nat} {a1 : Nat}  (k : xw G m_Store_gatherAllLive F L bc bs pr px 2 [some (.ref a0), some (.ref a1), some (.int 0)] [] h) : xw G m_Store_gatherAllLive F L bc bs pr px 0 [some (.ref a0), some (.ref a1), none] [] h := by
  refine x_iconst (v := 0) d_Store_gatherAllLive_0 (by decide) ?_
  refine x_istore_n d_Store_gatherAllLive_1 rfl (by decide) rfl ?_
  show xw G m_Store_gatherAllLive F L bc bs pr px 2 [some (.ref a0), some (.ref a1), some (.int 0)] [] h
  exact k
theorem s_Store_gatherAllLive_2 {G : xw_G} {F L bc bs : Nat} {pr : Option Value → xw_A → Prop} {px : String → xw_A → Prop} {h : xw_A} {a0 : Nat} {a1 : Nat} {x2 : Int32} {level_a1 : Int32} {versions_a1 : Nat} {entries_a1 : Int32} {n_versions_a1 : Nat} {f_versions_a1 : Nat → Option Nat} (e_a1 : h a1 = some (.inr (6, [.int level_a1, .ref versions_a1, .int entries_a1]))) (e_versions_a1 : h versions_a1 = some (.inl (10 + 6, n_versions_a1, .inr (.inr (.inr (.inr f_versions_a1)))))) (kt : (Int32.ofNat n_versions_a1) ≤ x2 → xw G m_Store_gatherAllLive F L bc bs pr px 27 [none, none, none] [] h) (kf : ¬ (Int32.ofNat n_versions_a1) ≤ x2 → xw G m_Store_gatherAllLive F L bc bs pr px 11 [some (.ref a0), some (.ref a1), some (.int x2)] [] h) : xw G m_Store_gatherAllLive F L bc bs pr px 2 [some (.ref a0), some (.ref a1), some (.int x2)] [] h := by
  refine x_iload_n d_Store_gatherAllLive_2 rfl rfl ?_
  refine x_aload_n d_Store_gatherAllLive_3 rfl rfl ?_
  refine x_get d_Store_gatherAllLive_4 f_Store_86 e_a1 rfl ?_
  refine x_alen d_Store_gatherAllLive_7 e_versions_a1 rfl ?_
  refine x_icmp_ge (tgt := 27) d_Store_gatherAllLive_8 (by decide) (fun hc => ?_) (fun hc => ?_)
  · exact x_le (lv' := [none, none, none]) (xw_le_n (xw_le_n (xw_le_n xw_le_e))) (kt hc)
  · exact kf hc
theorem s_Store_gatherAllLive_11 {G : xw_G} {F L bc bs : Nat} {pr : Option Value → xw_A → Prop} {px : String → xw_A → Prop} {h : xw_A} {a0 : Nat} {a1 : Nat} {x2 : Int32} {level_a1 : Int32} {versions_a1 : Nat} {entries_a1 : Int32} {n_versions_a1 : Nat} {f_versions_a1 : Nat → Option Nat} (e_a1 : h a1 = some (.inr (6, [.int level_a1, .ref versions_a1, .int entries_a1]))) (e_versions_a1 : h versions_a1 = some (.inl (10 + 6, n_versions_a1, .inr (.inr (.inr (.inr f_versions_a1)))))) (i_17 : vp_in x2 n_versions_a1) (k : xw G m_Store_gatherAllLive F L bc bs pr px 18 [some (.ref a0), some (.ref a1), some (.int x2)] [va_rf (f_versions_a1 x2.toNatClampNeg), .ref a0] h) : xw G m_Store_gatherAllLive F L bc bs pr px 11 [some (.ref a0), some (.ref a1), some (.int x2)] [] h := by
  refine x_aload_n d_Store_gatherAllLive_11 rfl rfl ?_
  refine x_aload_n d_Store_gatherAllLive_12 rfl rfl ?_
  refine x_get d_Store_gatherAllLive_13 f_Store_86 e_a1 rfl ?_
  refine x_iload_n d_Store_gatherAllLive_16 rfl rfl ?_
  refine x_aald d_Store_gatherAllLive_17 e_versions_a1 i_17 rfl ?_
  exact k
theorem s_Store_gatherAllLive_21 {G : xw_G} {F L bc bs : Nat} {pr : Option Value → xw_A → Prop} {px : String → xw_A → Prop} {h : xw_A} {a0 : Nat} {a1 : Nat} {x2 : Int32}  (k : xw G m_Store_gatherAllLive F L bc bs pr px 2 [some (.ref a0), some (.ref a1), some (.int (x2 + 1))] [] h) : xw G m_Store_gatherAllLive F L bc bs pr px 21 [some (.ref a0), some (.ref a1), some (.int x2)] [] h := by
  refine x_iinc (v := x2 + 1) d_Store_gatherAllLive_21 rfl (by rfl) (by decide) rfl ?_
  show xw G m_Store_gatherAllLive F L bc bs pr px 24 [some (.ref a0), some (.ref a1), some (.int (x2 + 1))] [] h
  refine x_goto (tgt := 2) d_Store_gatherAllLive_24 (by decide) ?_
  exact k
theorem s_Store_gatherAllLive_27 {G : xw_G} {F L bc bs : Nat} {pr : Option Value → xw_A → Prop} {px : String → xw_A → Prop} {h : xw_A}   (kr : pr none h) : xw G m_Store_gatherAllLive F L bc bs pr px 27 [none, none, none] [] h := by
  exact x_vret d_Store_gatherAllLive_27 rfl kr
theorem s_Store_mergeAll_0 {G : xw_G} {F L bc bs : Nat} {pr : Option Value → xw_A → Prop} {px : String → xw_A → Prop} {h : xw_A} {a0 : Nat} {rows_a0 : Option Nat} {pending_a0 : Option Nat} {segments_a0 : Option Nat} {live_a0 : Option Nat} {pendingCount_a0 : Int32} {pendingEntries_a0 : Int32} {segmentCount_a0 : Int32} {versionsMade_a0 : Int32} {segmentsMade_a0 : Int32} {liveCount_a0 : Int32} (e_a0 : h a0 = some (.inr (8, [va_rf rows_a0, va_rf pending_a0, va_rf segments_a0, va_rf live_a0, .int pendingCount_a0, .int pendingEntries_a0, .int segmentCount_a0, .int versionsMade_a0, .int segmentsMade_a0, .int liveCount_a0]))) (k : xw G m_Store_mergeAll F L bc bs pr px 9 [some (.ref a0), some (.int segmentCount_a0), some (.int 0), some (.int 0)] [] h) : xw G m_Store_mergeAll F L bc bs pr px 0 [some (.ref a0), none, none, none] [] h := by
  refine x_aload_n d_Store_mergeAll_0 rfl rfl ?_
  refine x_get d_Store_mergeAll_1 f_Store_70 e_a0 rfl ?_
  refine x_istore_n d_Store_mergeAll_4 rfl (by decide) rfl ?_
  show xw G m_Store_mergeAll F L bc bs pr px 5 [some (.ref a0), some (.int segmentCount_a0), none, none] [] h
  refine x_iconst (v := 0) d_Store_mergeAll_5 (by decide) ?_
  refine x_istore_n d_Store_mergeAll_6 rfl (by decide) rfl ?_
  show xw G m_Store_mergeAll F L bc bs pr px 7 [some (.ref a0), some (.int segmentCount_a0), some (.int 0), none] [] h
  refine x_iconst (v := 0) d_Store_mergeAll_7 (by decide) ?_
  refine x_istore_n d_Store_mergeAll_8 rfl (by decide) rfl ?_
  show xw G m_Store_mergeAll F L bc bs pr px 9 [some (.ref a0), some (.int segmentCount_a0), some (.int 0), some (.int 0)] [] h
  exact k
theorem s_Store_mergeAll_9 {G : xw_G} {F L bc bs : Nat} {pr : Option Value → xw_A → Prop} {px : String → xw_A → Prop} {h : xw_A} {a0 : Nat} {x1 : Int32} {x2 : Int32} {x3 : Int32} {rows_a0 : Option Nat} {pending_a0 : Option Nat} {segments_a0 : Option Nat} {live_a0 : Option Nat} {pendingCount_a0 : Int32} {pendingEntries_a0 : Int32} {segmentCount_a0 : Int32} {versionsMade_a0 : Int32} {segmentsMade_a0 : Int32} {liveCount_a0 : Int32} (e_a0 : h a0 = some (.inr (8, [va_rf rows_a0, va_rf pending_a0, va_rf segments_a0, va_rf live_a0, .int pendingCount_a0, .int pendingEntries_a0, .int segmentCount_a0, .int versionsMade_a0, .int segmentsMade_a0, .int liveCount_a0]))) (kt : segmentCount_a0 ≤ x3 → xw G m_Store_mergeAll F L bc bs pr px 37 [some (.ref a0), some (.int x1), some (.int x2), none] [] h) (kf : ¬ segmentCount_a0 ≤ x3 → xw G m_Store_mergeAll F L bc bs pr px 17 [some (.ref a0), some (.int x1), some (.int x2), some (.int x3)] [] h) : xw G m_Store_mergeAll F L bc bs pr px 9 [some (.ref a0), some (.int x1), some (.int x2), some (.int x3)] [] h := by
  refine x_iload_n d_Store_mergeAll_9 rfl rfl ?_
  refine x_aload_n d_Store_mergeAll_10 rfl rfl ?_
  refine x_get d_Store_mergeAll_11 f_Store_70 e_a0 rfl ?_
  refine x_icmp_ge (tgt := 37) d_Store_mergeAll_14 (by decide) (fun hc => ?_) (fun hc => ?_)
  · exact x_le (lv' := [some (.ref a0), some (.int x1), some (.int x2), none]) (xw_le_s (xw_le_s (xw_le_s (xw_le_n xw_le_e)))) (kt hc)
  · exact kf hc
theorem s_Store_mergeAll_17 {G : xw_G} {F L bc bs : Nat} {pr : Option Value → xw_A → Prop} {px : String → xw_A → Prop} {h : xw_A} {a0 : Nat} {x1 : Int32} {x2 : Int32} {x3 : Int32} {rows_a0 : Option Nat} {pending_a0 : Option Nat} {segments_a0 : Nat} {live_a0 : Option Nat} {pendingCount_a0 : Int32} {pendingEntries_a0 : Int32} {segmentCount_a0 : Int32} {versionsMade_a0 : Int32} {segmentsMade_a0 : Int32} {liveCount_a0 : Int32} {n_segments_a0 : Nat} {f_segments_a0 : Nat → Option Nat} {g23 : Nat} {level_g23 : Int32} {versions_g23 : Option Nat} {entries_g23 : Int32} (e_a0 : h a0 = some (.inr (8, [va_rf rows_a0, va_rf pending_a0, .ref segments_a0, va_rf live_a0, .int pendingCount_a0, .int pendingEntries_a0, .int segmentCount_a0, .int versionsMade_a0, .int segmentsMade_a0, .int liveCount_a0]))) (e_segments_a0 : h segments_a0 = some (.inl (6 + 6, n_segments_a0, .inr (.inr (.inr (.inr f_segments_a0)))))) (i_23 : vp_in x3 n_segments_a0) (g_23 : f_segments_a0 x3.toNatClampNeg = some g23) (e_g23 : h g23 = some (.inr (6, [.int level_g23, va_rf versions_g23, .int entries_g23]))) (k : xw G m_Store_mergeAll F L bc bs pr px 27 [some (.ref a0), some (.int x1), some (.int x2), some (.int x3)] [.int level_g23, .int x2] h) : xw G m_Store_mergeAll F L bc bs pr px 17 [some (.ref a0), some (.int x1), some (.int x2), some (.int x3)] [] h := by
  refine x_iload_n d_Store_mergeAll_17 rfl rfl ?_
  refine x_aload_n d_Store_mergeAll_18 rfl rfl ?_
  refine x_get d_Store_mergeAll_19 f_Store_22 e_a0 rfl ?_
  refine x_iload_n d_Store_mergeAll_22 rfl rfl ?_
  refine x_aald (v := .ref g23) d_Store_mergeAll_23 e_segments_a0 i_23 (by rw [g_23]; rfl) ?_
  refine x_get d_Store_mergeAll_24 f_Store_73 e_g23 rfl ?_
  exact k
theorem s_Store_mergeAll_30 {G : xw_G} {F L bc bs : Nat} {pr : Option Value → xw_A → Prop} {px : String → xw_A → Prop} {h : xw_A} {a0 : Nat} {x1 : Int32} {x3 : Int32} {y0 : Int32}  (k : xw G m_Store_mergeAll F L bc bs pr px 9 [some (.ref a0), some (.int x1), some (.int y0), some (.int (x3 + 1))] [] h) : xw G m_Store_mergeAll F L bc bs pr px 30 [some (.ref a0), some (.int x1), none, some (.int x3)] [.int y0] h := by
  refine x_istore_n d_Store_mergeAll_30 rfl (by decide) rfl ?_
  show xw G m_Store_mergeAll F L bc bs pr px 31 [some (.ref a0), some (.int x1), some (.int y0), some (.int x3)] [] h
  refine x_iinc (v := x3 + 1) d_Store_mergeAll_31 rfl (by rfl) (by decide) rfl ?_
  show xw G m_Store_mergeAll F L bc bs pr px 34 [some (.ref a0), some (.int x1), some (.int y0), some (.int (x3 + 1))] [] h
  refine x_goto (tgt := 9) d_Store_mergeAll_34 (by decide) ?_
  exact k
theorem s_Store_mergeAll_37 {G : xw_G} {F L bc bs : Nat} {pr : Option Value → xw_A → Prop} {px : String → xw_A → Prop} {h : xw_A} {a0 : Nat} {x1 : Int32} {x2 : Int32}  (k : xw G m_Store_mergeAll F L bc bs pr px 41 [some (.ref a0), some (.int x1), some (.int x2), none] [.int x2, .int 5, .int 0, .ref a0] h) : xw G m_Store_mergeAll F L bc bs pr px 37 [some (.ref a0), some (.int x1), some (.int x2), none] [] h := by
  refine x_aload_n d_Store_mergeAll_37 rfl rfl ?_
  refine x_iconst (v := 0) d_Store_mergeAll_38 (by decide) ?_
  refine x_iconst (v := 5) d_Store_mergeAll_39 (by decide) ?_
  refine x_iload_n d_Store_mergeAll_40 rfl rfl ?_
  exact k
theorem s_Store_mergeAll_44 {G : xw_G} {F L bc bs : Nat} {pr : Option Value → xw_A → Prop} {px : String → xw_A → Prop} {h : xw_A} {x1 : Int32}  (kr : pr (some (.int x1)) h) : xw G m_Store_mergeAll F L bc bs pr px 44 [none, some (.int x1), none, none] [] h := by
  refine x_iload_n d_Store_mergeAll_44 rfl rfl ?_
  exact x_iret d_Store_mergeAll_45 rfl kr
theorem s_Store_freeRow_0 {G : xw_G} {F L bc bs : Nat} {pr : Option Value → xw_A → Prop} {px : String → xw_A → Prop} {h : xw_A} {a0 : Nat}  (k : xw G m_Store_freeRow F L bc bs pr px 2 [some (.ref a0), some (.int 1)] [] h) : xw G m_Store_freeRow F L bc bs pr px 0 [some (.ref a0), none] [] h := by
  refine x_iconst (v := 1) d_Store_freeRow_0 (by decide) ?_
  refine x_istore_n d_Store_freeRow_1 rfl (by decide) rfl ?_
  show xw G m_Store_freeRow F L bc bs pr px 2 [some (.ref a0), some (.int 1)] [] h
  exact k
theorem s_Store_freeRow_2 {G : xw_G} {F L bc bs : Nat} {pr : Option Value → xw_A → Prop} {px : String → xw_A → Prop} {h : xw_A} {a0 : Nat} {x1 : Int32}  (kt : 24 < x1 → xw G m_Store_freeRow F L bc bs pr px 25 [none, none] [] h) (kf : ¬ 24 < x1 → xw G m_Store_freeRow F L bc bs pr px 8 [some (.ref a0), some (.int x1)] [] h) : xw G m_Store_freeRow F L bc bs pr px 2 [some (.ref a0), some (.int x1)] [] h := by
  refine x_iload_n d_Store_freeRow_2 rfl rfl ?_
  refine x_bipush (v := 24) d_Store_freeRow_3 (by decide) ?_
  refine x_icmp_gt (tgt := 25) d_Store_freeRow_5 (by decide) (fun hc => ?_) (fun hc => ?_)
  · exact x_le (lv' := [none, none]) (xw_le_n (xw_le_n xw_le_e)) (kt hc)
  · exact kf hc
theorem s_Store_freeRow_8 {G : xw_G} {F L bc bs : Nat} {pr : Option Value → xw_A → Prop} {px : String → xw_A → Prop} {h : xw_A} {a0 : Nat} {x1 : Int32} {rows_a0 : Nat} {pending_a0 : Option Nat} {segments_a0 : Option Nat} {live_a0 : Option Nat} {pendingCount_a0 : Int32} {pendingEntries_a0 : Int32} {segmentCount_a0 : Int32} {versionsMade_a0 : Int32} {segmentsMade_a0 : Int32} {liveCount_a0 : Int32} {n_rows_a0 : Nat} {f_rows_a0 : Nat → Option Nat} (e_a0 : h a0 = some (.inr (8, [.ref rows_a0, va_rf pending_a0, va_rf segments_a0, va_rf live_a0, .int pendingCount_a0, .int pendingEntries_a0, .int segmentCount_a0, .int versionsMade_a0, .int segmentsMade_a0, .int liveCount_a0]))) (e_rows_a0 : h rows_a0 = some (.inl (10 + 6, n_rows_a0, .inr (.inr (.inr (.inr f_rows_a0)))))) (i_13 : vp_in x1 n_rows_a0) (kn : (f_rows_a0 x1.toNatClampNeg) = none → xw G m_Store_freeRow F L bc bs pr px 17 [none, some (.int x1)] [] h) (ks : ∀ a9 : Nat, (f_rows_a0 x1.toNatClampNeg) = some a9 → xw G m_Store_freeRow F L bc bs pr px 19 [some (.ref a0), some (.int x1)] [] h) : xw G m_Store_freeRow F L bc bs pr px 8 [some (.ref a0), some (.int x1)] [] h := by
  refine x_aload_n d_Store_freeRow_8 rfl rfl ?_
  refine x_get d_Store_freeRow_9 f_Store_11 e_a0 rfl ?_
  refine x_iload_n d_Store_freeRow_12 rfl rfl ?_
  refine x_aald d_Store_freeRow_13 e_rows_a0 i_13 rfl ?_
  refine x_ifnonnullq (tgt := 19) d_Store_freeRow_14 (by decide) (fun hc => ?_) (fun a9 hc => ?_)
  · exact x_le (lv' := [none, some (.int x1)]) (xw_le_n (xw_le_s xw_le_e)) (kn hc)
  · exact ks a9 hc
theorem s_Store_freeRow_17 {G : xw_G} {F L bc bs : Nat} {pr : Option Value → xw_A → Prop} {px : String → xw_A → Prop} {h : xw_A} {x1 : Int32}  (kr : pr (some (.int x1)) h) : xw G m_Store_freeRow F L bc bs pr px 17 [none, some (.int x1)] [] h := by
  refine x_iload_n d_Store_freeRow_17 rfl rfl ?_
  exact x_iret d_Store_freeRow_18 rfl kr
theorem s_Store_freeRow_19 {G : xw_G} {F L bc bs : Nat} {pr : Option Value → xw_A → Prop} {px : String → xw_A → Prop} {h : xw_A} {a0 : Nat} {x1 : Int32}  (k : xw G m_Store_freeRow F L bc bs pr px 2 [some (.ref a0), some (.int (x1 + 1))] [] h) : xw G m_Store_freeRow F L bc bs pr px 19 [some (.ref a0), some (.int x1)] [] h := by
  refine x_iinc (v := x1 + 1) d_Store_freeRow_19 rfl (by rfl) (by decide) rfl ?_
  show xw G m_Store_freeRow F L bc bs pr px 22 [some (.ref a0), some (.int (x1 + 1))] [] h
  refine x_goto (tgt := 2) d_Store_freeRow_22 (by decide) ?_
  exact k
theorem s_Store_freeRow_25 {G : xw_G} {F L bc bs : Nat} {pr : Option Value → xw_A → Prop} {px : String → xw_A → Prop} {h : xw_A}   (kr : pr (some (.int 0)) h) : xw G m_Store_freeRow F L bc bs pr px 25 [none, none] [] h := by
  refine x_iconst (v := 0) d_Store_freeRow_25 (by decide) ?_
  exact x_iret d_Store_freeRow_26 rfl kr
theorem s_Store_putVersion_0 {G : xw_G} {F L bc bs : Nat} {pr : Option Value → xw_A → Prop} {px : String → xw_A → Prop} {h : xw_A} {a0 : Nat} {x1 : Int32} {a2 : Nat} {a3 : Nat} {rows_a0 : Option Nat} {pending_a0 : Option Nat} {segments_a0 : Option Nat} {live_a0 : Option Nat} {pendingCount_a0 : Int32} {pendingEntries_a0 : Int32} {segmentCount_a0 : Int32} {versionsMade_a0 : Int32} {segmentsMade_a0 : Int32} {liveCount_a0 : Int32} (e_a0 : h a0 = some (.inr (8, [va_rf rows_a0, va_rf pending_a0, va_rf segments_a0, va_rf live_a0, .int pendingCount_a0, .int pendingEntries_a0, .int segmentCount_a0, .int versionsMade_a0, .int segmentsMade_a0, .int liveCount_a0]))) (k : xw G m_Store_putVersion F L bc bs pr px 11 [some (.ref a0), some (.int x1), some (.ref a2), some (.ref a3), none, none] [.ref a2] (xw_up h a0 (.inr (8, [va_rf rows_a0, va_rf pending_a0, va_rf segments_a0, va_rf live_a0, .int pendingCount_a0, .int pendingEntries_a0, .int segmentCount_a0, .int (versionsMade_a0 + 1), .int segmentsMade_a0, .int liveCount_a0])))) : xw G m_Store_putVersion F L bc bs pr px 0 [some (.ref a0), some (.int x1), some (.ref a2), some (.ref a3), none, none] [] h := by
  refine x_aload_n d_Store_putVersion_0 rfl rfl ?_
  refine x_dup d_Store_putVersion_1 rfl ?_
  refine x_get d_Store_putVersion_2 f_Store_33 e_a0 rfl ?_
  refine x_iconst (v := 1) d_Store_putVersion_5 (by decide) ?_
  refine x_iadd d_Store_putVersion_6 ?_
  refine x_put (ty := .int) d_Store_putVersion_7 f_Store_33 fw_Store_7.1 fw_Store_7.2 rfl rfl (Nat.le_of_ble_eq_true rfl) e_a0 ?_
  show xw G m_Store_putVersion F L bc bs pr px 10 [some (.ref a0), some (.int x1), some (.ref a2), some (.ref a3), none, none] [] (xw_up h a0 (.inr (8, [va_rf rows_a0, va_rf pending_a0, va_rf segments_a0, va_rf live_a0, .int pendingCount_a0, .int pendingEntries_a0, .int segmentCount_a0, .int (versionsMade_a0 + 1), .int segmentsMade_a0, .int liveCount_a0])))
  refine x_aload_n d_Store_putVersion_10 rfl rfl ?_
  exact k
theorem s_Store_putVersion_14 {G : xw_G} {F L bc bs : Nat} {pr : Option Value → xw_A → Prop} {px : String → xw_A → Prop} {h : xw_A} {a0 : Nat} {x1 : Int32} {a2 : Nat} {a3 : Nat} {y0 : Int32}  (k : xw G m_Store_putVersion F L bc bs pr px 15 [some (.ref a0), some (.int x1), some (.ref a2), some (.ref a3), none, none] [.ref a3, .int y0] h) : xw G m_Store_putVersion F L bc bs pr px 14 [some (.ref a0), some (.int x1), some (.ref a2), some (.ref a3), none, none] [.int y0] h := by
  refine x_aload_n d_Store_putVersion_14 rfl rfl ?_
  exact k
theorem s_Store_putVersion_18 {G : xw_G} {F L bc bs : Nat} {pr : Option Value → xw_A → Prop} {px : String → xw_A → Prop} {h : xw_A} {a0 : Nat} {x1 : Int32} {a2 : Nat} {a3 : Nat} {y0 : Int32} {y1 : Int32} {rows_a0 : Option Nat} {pending_a0 : Option Nat} {segments_a0 : Option Nat} {live_a0 : Option Nat} {pendingCount_a0 : Int32} {pendingEntries_a0 : Int32} {segmentCount_a0 : Int32} {versionsMade_a0 : Int32} {segmentsMade_a0 : Int32} {liveCount_a0 : Int32} (u_21 : 1 ≤ bc ∧ 5 ≤ bs) (e_a0 : h a0 = some (.inr (8, [va_rf rows_a0, va_rf pending_a0, va_rf segments_a0, va_rf live_a0, .int pendingCount_a0, .int pendingEntries_a0, .int segmentCount_a0, .int versionsMade_a0, .int segmentsMade_a0, .int liveCount_a0]))) (k : ∀ q21 : Nat, h q21 = none → xw G m_Store_putVersion F L (bc - 1) (bs - 5) pr px 34 [some (.ref a0), some (.int x1), some (.ref a2), some (.ref a3), some (.int (y1 + y0)), none] [.int (y1 + y0), .ref a3, .ref a2, .int x1, .int versionsMade_a0, .ref q21, .ref q21] (xw_up h q21 (.inr (10, [.int 0, .int 0, .null, .null, .int 0])))) : xw G m_Store_putVersion F L bc bs pr px 18 [some (.ref a0), some (.int x1), some (.ref a2), some (.ref a3), none, none] [.int y0, .int y1] h := by
  refine x_iadd d_Store_putVersion_18 ?_
  refine x_istore d_Store_putVersion_19 (by decide) rfl ?_
  show xw G m_Store_putVersion F L bc bs pr px 21 [some (.ref a0), some (.int x1), some (.ref a2), some (.ref a3), some (.int (y1 + y0)), none] [] h
  refine x_new (ci := 10) (fs := [.int 0, .int 0, .null, .null, .int 0]) d_Store_putVersion_21 (by decide) nw_Store_9.1 nw_Store_9.2.1 nw_Store_9.2.2 df_Version u_21 (fun q21 hq21 => ?_)
  show xw G m_Store_putVersion F L (bc - 1) (bs - 5) pr px 24 [some (.ref a0), some (.int x1), some (.ref a2), some (.ref a3), some (.int (y1 + y0)), none] [.ref q21] (xw_up h q21 (.inr (10, [.int 0, .int 0, .null, .null, .int 0])))
  refine x_dup d_Store_putVersion_24 rfl ?_
  refine x_aload_n d_Store_putVersion_25 rfl rfl ?_
  refine x_get d_Store_putVersion_26 f_Store_33 ((xw_up_n _ _ (xw_neN e_a0 hq21)).trans e_a0) rfl ?_
  refine x_iload_n d_Store_putVersion_29 rfl rfl ?_
  refine x_aload_n d_Store_putVersion_30 rfl rfl ?_
  refine x_aload_n d_Store_putVersion_31 rfl rfl ?_
  refine x_iload d_Store_putVersion_32 rfl ?_
  exact (k q21 hq21)
theorem s_Store_putVersion_37 {G : xw_G} {F L bc bs : Nat} {pr : Option Value → xw_A → Prop} {px : String → xw_A → Prop} {h : xw_A} {a0 : Nat} {x1 : Int32} {x4 : Int32} {b0 : Nat} {rows_a0 : Nat} {pending_a0 : Option Nat} {segments_a0 : Option Nat} {live_a0 : Option Nat} {pendingCount_a0 : Int32} {pendingEntries_a0 : Int32} {segmentCount_a0 : Int32} {versionsMade_a0 : Int32} {segmentsMade_a0 : Int32} {liveCount_a0 : Int32} {n_rows_a0 : Nat} {f_rows_a0 : Nat → Option Nat} {number_b0 : Int32} {row_b0 : Int32} {first_b0 : Option Nat} {second_b0 : Option Nat} {entries_b0 : Int32} (e_a0 : h a0 = some (.inr (8, [.ref rows_a0, va_rf pending_a0, va_rf segments_a0, va_rf live_a0, .int pendingCount_a0, .int pendingEntries_a0, .int segmentCount_a0, .int versionsMade_a0, .int segmentsMade_a0, .int liveCount_a0]))) (e_rows_a0 : h rows_a0 = some (.inl (10 + 6, n_rows_a0, .inr (.inr (.inr (.inr f_rows_a0)))))) (i_46 : vp_in x1 n_rows_a0) (e_b0 : h b0 = some (.inr (10, [.int number_b0, .int row_b0, va_rf first_b0, va_rf second_b0, .int entries_b0]))) (kt : x4 ≤ 0 → xw G m_Store_putVersion F L bc bs pr px 96 [none, none, none, none, some (.int x4), none] [] (xw_up h rows_a0 (.inl (10 + 6, n_rows_a0, .inr (.inr (.inr (.inr (va_up f_rows_a0 x1.toNatClampNeg (some b0))))))))) (kf : ¬ x4 ≤ 0 → xw G m_Store_putVersion F L bc bs pr px 52 [some (.ref a0), none, none, none, some (.int x4), some (.ref b0)] [] (xw_up h rows_a0 (.inl (10 + 6, n_rows_a0, .inr (.inr (.inr (.inr (va_up f_rows_a0 x1.toNatClampNeg (some b0))))))))) : xw G m_Store_putVersion F L bc bs pr px 37 [some (.ref a0), some (.int x1), none, none, some (.int x4), none] [.ref b0] h := by
  refine x_astore d_Store_putVersion_37 (by decide) rfl ?_
  show xw G m_Store_putVersion F L bc bs pr px 39 [some (.ref a0), some (.int x1), none, none, some (.int x4), some (.ref b0)] [] h
  refine x_aload_n d_Store_putVersion_39 rfl rfl ?_
  refine x_get d_Store_putVersion_40 f_Store_11 e_a0 rfl ?_
  refine x_iload_n d_Store_putVersion_43 rfl rfl ?_
  refine x_aload d_Store_putVersion_44 rfl ?_
  refine x_aast d_Store_putVersion_46 (by decide) e_rows_a0 e_b0 i_46 ?_
  refine x_iload d_Store_putVersion_47 rfl ?_
  refine x_if_le (tgt := 96) d_Store_putVersion_49 (by decide) (fun hc => ?_) (fun hc => ?_)
  · exact x_le (lv' := [none, none, none, none, some (.int x4), none]) (xw_le_n (xw_le_n (xw_le_n (xw_le_n (xw_le_s (xw_le_n xw_le_e)))))) (kt hc)
  · exact x_le (lv' := [some (.ref a0), none, none, none, some (.int x4), some (.ref b0)]) (xw_le_s (xw_le_n (xw_le_n (xw_le_n (xw_le_s (xw_le_s xw_le_e)))))) (kf hc)
theorem s_Store_putVersion_52 {G : xw_G} {F L bc bs : Nat} {pr : Option Value → xw_A → Prop} {px : String → xw_A → Prop} {h : xw_A} {a0 : Nat} {x4 : Int32} {a5 : Nat} {rows_a0 : Option Nat} {pending_a0 : Nat} {segments_a0 : Option Nat} {live_a0 : Option Nat} {pendingCount_a0 : Int32} {pendingEntries_a0 : Int32} {segmentCount_a0 : Int32} {versionsMade_a0 : Int32} {segmentsMade_a0 : Int32} {liveCount_a0 : Int32} {n_pending_a0 : Nat} {f_pending_a0 : Nat → Option Nat} (e_a0 : h a0 = some (.inr (8, [va_rf rows_a0, .ref pending_a0, va_rf segments_a0, va_rf live_a0, .int pendingCount_a0, .int pendingEntries_a0, .int segmentCount_a0, .int versionsMade_a0, .int segmentsMade_a0, .int liveCount_a0]))) (e_pending_a0 : h pending_a0 = some (.inl (10 + 6, n_pending_a0, .inr (.inr (.inr (.inr f_pending_a0)))))) (kt : (Int32.ofNat n_pending_a0) ≤ pendingCount_a0 → xw G m_Store_putVersion F L bc bs pr px 96 [none, none, none, none, some (.int x4), none] [] h) (kf : ¬ (Int32.ofNat n_pending_a0) ≤ pendingCount_a0 → xw G m_Store_putVersion F L bc bs pr px 64 [some (.ref a0), none, none, none, some (.int x4), some (.ref a5)] [] h) : xw G m_Store_putVersion F L bc bs pr px 52 [some (.ref a0), none, none, none, some (.int x4), some (.ref a5)] [] h := by
  refine x_aload_n d_Store_putVersion_52 rfl rfl ?_
  refine x_get d_Store_putVersion_53 f_Store_45 e_a0 rfl ?_
  refine x_aload_n d_Store_putVersion_56 rfl rfl ?_
  refine x_get d_Store_putVersion_57 f_Store_17 e_a0 rfl ?_
  refine x_alen d_Store_putVersion_60 e_pending_a0 rfl ?_
  refine x_icmp_ge (tgt := 96) d_Store_putVersion_61 (by decide) (fun hc => ?_) (fun hc => ?_)
  · exact x_le (lv' := [none, none, none, none, some (.int x4), none]) (xw_le_n (xw_le_n (xw_le_n (xw_le_n (xw_le_s (xw_le_n xw_le_e)))))) (kt hc)
  · exact kf hc
theorem s_Store_putVersion_64 {G : xw_G} {F L bc bs : Nat} {pr : Option Value → xw_A → Prop} {px : String → xw_A → Prop} {h : xw_A} {a0 : Nat} {x4 : Int32} {a5 : Nat} {rows_a0 : Option Nat} {pending_a0 : Nat} {segments_a0 : Option Nat} {live_a0 : Option Nat} {pendingCount_a0 : Int32} {pendingEntries_a0 : Int32} {segmentCount_a0 : Int32} {versionsMade_a0 : Int32} {segmentsMade_a0 : Int32} {liveCount_a0 : Int32} {n_pending_a0 : Nat} {f_pending_a0 : Nat → Option Nat} {number_a5 : Int32} {row_a5 : Int32} {first_a5 : Option Nat} {second_a5 : Option Nat} {entries_a5 : Int32} (e_a0 : h a0 = some (.inr (8, [va_rf rows_a0, .ref pending_a0, va_rf segments_a0, va_rf live_a0, .int pendingCount_a0, .int pendingEntries_a0, .int segmentCount_a0, .int versionsMade_a0, .int segmentsMade_a0, .int liveCount_a0]))) (e_pending_a0 : h pending_a0 = some (.inl (10 + 6, n_pending_a0, .inr (.inr (.inr (.inr f_pending_a0)))))) (i_74 : vp_in pendingCount_a0 n_pending_a0) (e_a5 : h a5 = some (.inr (10, [.int number_a5, .int row_a5, va_rf first_a5, va_rf second_a5, .int entries_a5]))) (k : xw G m_Store_putVersion F L bc bs pr px 96 [none, none, none, none, some (.int x4), none] [] (xw_up (xw_up (xw_up h pending_a0 (.inl (10 + 6, n_pending_a0, .inr (.inr (.inr (.inr (va_up f_pending_a0 pendingCount_a0.toNatClampNeg (some a5)))))))) a0 (.inr (8, [va_rf rows_a0, .ref pending_a0, va_rf segments_a0, va_rf live_a0, .int (pendingCount_a0 + 1), .int pendingEntries_a0, .int segmentCount_a0, .int versionsMade_a0, .int segmentsMade_a0, .int liveCount_a0]))) a0 (.inr (8, [va_rf rows_a0, .ref pending_a0, va_rf segments_a0, va_rf live_a0, .int (pendingCount_a0 + 1), .int (pendingEntries_a0 + x4), .int segmentCount_a0, .int versionsMade_a0, .int segmentsMade_a0, .int liveCount_a0])))) : xw G m_Store_putVersion F L bc bs pr px 64 [some (.ref a0), none, none, none, some (.int x4), some (.ref a5)] [] h := by
  refine x_aload_n d_Store_putVersion_64 rfl rfl ?_
  refine x_get d_Store_putVersion_65 f_Store_17 e_a0 rfl ?_
  refine x_aload_n d_Store_putVersion_68 rfl rfl ?_
  refine x_get d_Store_putVersion_69 f_Store_45 e_a0 rfl ?_
  refine x_aload d_Store_putVersion_72 rfl ?_
  refine x_aast d_Store_putVersion_74 (by decide) e_pending_a0 e_a5 i_74 ?_
  refine x_aload_n d_Store_putVersion_75 rfl rfl ?_
  refine x_dup d_Store_putVersion_76 rfl ?_
  refine x_get d_Store_putVersion_77 f_Store_45 ((xw_up_n _ _ (xw_ne e_a0 e_pending_a0 (by simp))).trans e_a0) rfl ?_
  refine x_iconst (v := 1) d_Store_putVersion_80 (by decide) ?_
  refine x_iadd d_Store_putVersion_81 ?_
  refine x_put (ty := .int) d_Store_putVersion_82 f_Store_45 fw_Store_4.1 fw_Store_4.2 rfl rfl (Nat.le_of_ble_eq_true rfl) ((xw_up_n _ _ (xw_ne e_a0 e_pending_a0 (by simp))).trans e_a0) ?_
  show xw G m_Store_putVersion F L bc bs pr px 85 [some (.ref a0), none, none, none, some (.int x4), some (.ref a5)] [] (xw_up (xw_up h pending_a0 (.inl (10 + 6, n_pending_a0, .inr (.inr (.inr (.inr (va_up f_pending_a0 pendingCount_a0.toNatClampNeg (some a5)))))))) a0 (.inr (8, [va_rf rows_a0, .ref pending_a0, va_rf segments_a0, va_rf live_a0, .int (pendingCount_a0 + 1), .int pendingEntries_a0, .int segmentCount_a0, .int versionsMade_a0, .int segmentsMade_a0, .int liveCount_a0])))
  refine x_aload_n d_Store_putVersion_85 rfl rfl ?_
  refine x_dup d_Store_putVersion_86 rfl ?_
  refine x_get d_Store_putVersion_87 f_Store_48 (xw_up_s _ _ _) rfl ?_
  refine x_iload d_Store_putVersion_90 rfl ?_
  refine x_iadd d_Store_putVersion_92 ?_
  refine x_put (ty := .int) d_Store_putVersion_93 f_Store_48 fw_Store_5.1 fw_Store_5.2 rfl rfl (Nat.le_of_ble_eq_true rfl) (xw_up_s _ _ _) ?_
  show xw G m_Store_putVersion F L bc bs pr px 96 [some (.ref a0), none, none, none, some (.int x4), some (.ref a5)] [] (xw_up (xw_up (xw_up h pending_a0 (.inl (10 + 6, n_pending_a0, .inr (.inr (.inr (.inr (va_up f_pending_a0 pendingCount_a0.toNatClampNeg (some a5)))))))) a0 (.inr (8, [va_rf rows_a0, .ref pending_a0, va_rf segments_a0, va_rf live_a0, .int (pendingCount_a0 + 1), .int pendingEntries_a0, .int segmentCount_a0, .int versionsMade_a0, .int segmentsMade_a0, .int liveCount_a0]))) a0 (.inr (8, [va_rf rows_a0, .ref pending_a0, va_rf segments_a0, va_rf live_a0, .int (pendingCount_a0 + 1), .int (pendingEntries_a0 + x4), .int segmentCount_a0, .int versionsMade_a0, .int segmentsMade_a0, .int liveCount_a0])))
  exact x_le (lv' := [none, none, none, none, some (.int x4), none]) (xw_le_n (xw_le_n (xw_le_n (xw_le_n (xw_le_s (xw_le_n xw_le_e)))))) (k)
theorem s_Store_putVersion_96 {G : xw_G} {F L bc bs : Nat} {pr : Option Value → xw_A → Prop} {px : String → xw_A → Prop} {h : xw_A} {x4 : Int32}  (kr : pr (some (.int x4)) h) : xw G m_Store_putVersion F L bc bs pr px 96 [none, none, none, none, some (.int x4), none] [] h := by
  refine x_iload d_Store_putVersion_96 rfl ?_
  exact x_iret d_Store_putVersion_98 rfl kr
theorem s_Store_versionOf_0 {G : xw_G} {F L bc bs : Nat} {pr : Option Value → xw_A → Prop} {px : String → xw_A → Prop} {h : xw_A} {a0 : Nat} {x1 : Int32}  (kt : x1 < 1 → xw G m_Store_versionOf F L bc bs pr px 20 [none, none] [] h) (kf : ¬ x1 < 1 → xw G m_Store_versionOf F L bc bs pr px 5 [some (.ref a0), some (.int x1)] [] h) : xw G m_Store_versionOf F L bc bs pr px 0 [some (.ref a0), some (.int x1)] [] h := by
  refine x_iload_n d_Store_versionOf_0 rfl rfl ?_
  refine x_iconst (v := 1) d_Store_versionOf_1 (by decide) ?_
  refine x_icmp_lt (tgt := 20) d_Store_versionOf_2 (by decide) (fun hc => ?_) (fun hc => ?_)
  · exact x_le (lv' := [none, none]) (xw_le_n (xw_le_n xw_le_e)) (kt hc)
  · exact kf hc
theorem s_Store_versionOf_5 {G : xw_G} {F L bc bs : Nat} {pr : Option Value → xw_A → Prop} {px : String → xw_A → Prop} {h : xw_A} {a0 : Nat} {x1 : Int32}  (kt : 24 < x1 → xw G m_Store_versionOf F L bc bs pr px 20 [none, none] [] h) (kf : ¬ 24 < x1 → xw G m_Store_versionOf F L bc bs pr px 11 [some (.ref a0), some (.int x1)] [] h) : xw G m_Store_versionOf F L bc bs pr px 5 [some (.ref a0), some (.int x1)] [] h := by
  refine x_iload_n d_Store_versionOf_5 rfl rfl ?_
  refine x_bipush (v := 24) d_Store_versionOf_6 (by decide) ?_
  refine x_icmp_gt (tgt := 20) d_Store_versionOf_8 (by decide) (fun hc => ?_) (fun hc => ?_)
  · exact x_le (lv' := [none, none]) (xw_le_n (xw_le_n xw_le_e)) (kt hc)
  · exact kf hc
theorem s_Store_versionOf_11 {G : xw_G} {F L bc bs : Nat} {pr : Option Value → xw_A → Prop} {px : String → xw_A → Prop} {h : xw_A} {a0 : Nat} {x1 : Int32} {rows_a0 : Nat} {pending_a0 : Option Nat} {segments_a0 : Option Nat} {live_a0 : Option Nat} {pendingCount_a0 : Int32} {pendingEntries_a0 : Int32} {segmentCount_a0 : Int32} {versionsMade_a0 : Int32} {segmentsMade_a0 : Int32} {liveCount_a0 : Int32} {n_rows_a0 : Nat} {f_rows_a0 : Nat → Option Nat} (e_a0 : h a0 = some (.inr (8, [.ref rows_a0, va_rf pending_a0, va_rf segments_a0, va_rf live_a0, .int pendingCount_a0, .int pendingEntries_a0, .int segmentCount_a0, .int versionsMade_a0, .int segmentsMade_a0, .int liveCount_a0]))) (e_rows_a0 : h rows_a0 = some (.inl (10 + 6, n_rows_a0, .inr (.inr (.inr (.inr f_rows_a0)))))) (i_16 : vp_in x1 n_rows_a0) (k : xw G m_Store_versionOf F L bc bs pr px 21 [none, none] [va_rf (f_rows_a0 x1.toNatClampNeg)] h) : xw G m_Store_versionOf F L bc bs pr px 11 [some (.ref a0), some (.int x1)] [] h := by
  refine x_aload_n d_Store_versionOf_11 rfl rfl ?_
  refine x_get d_Store_versionOf_12 f_Store_11 e_a0 rfl ?_
  refine x_iload_n d_Store_versionOf_15 rfl rfl ?_
  refine x_aald d_Store_versionOf_16 e_rows_a0 i_16 rfl ?_
  refine x_goto (tgt := 21) d_Store_versionOf_17 (by decide) ?_
  exact x_le (lv' := [none, none]) (xw_le_n (xw_le_n xw_le_e)) (k)
theorem s_Store_versionOf_20 {G : xw_G} {F L bc bs : Nat} {pr : Option Value → xw_A → Prop} {px : String → xw_A → Prop} {h : xw_A}   (k : xw G m_Store_versionOf F L bc bs pr px 21 [none, none] [.null] h) : xw G m_Store_versionOf F L bc bs pr px 20 [none, none] [] h := by
  refine x_null d_Store_versionOf_20 ?_
  exact k
theorem s_Store_versionOf_21 {G : xw_G} {F L bc bs : Nat} {pr : Option Value → xw_A → Prop} {px : String → xw_A → Prop} {h : xw_A} {s0 : Option Nat}  (kr : pr (some (va_rf s0)) h) : xw G m_Store_versionOf F L bc bs pr px 21 [none, none] [va_rf s0] h := by
  exact x_aret d_Store_versionOf_21 rfl (Or.inl ⟨_, rfl⟩) (va_rf_or _) kr
theorem s_Store_clearRow_0 {G : xw_G} {F L bc bs : Nat} {pr : Option Value → xw_A → Prop} {px : String → xw_A → Prop} {h : xw_A} {a0 : Nat} {x1 : Int32}  (kt : x1 < 1 → xw G m_Store_clearRow F L bc bs pr px 18 [none, none] [] h) (kf : ¬ x1 < 1 → xw G m_Store_clearRow F L bc bs pr px 5 [some (.ref a0), some (.int x1)] [] h) : xw G m_Store_clearRow F L bc bs pr px 0 [some (.ref a0), some (.int x1)] [] h := by
  refine x_iload_n d_Store_clearRow_0 rfl rfl ?_
  refine x_iconst (v := 1) d_Store_clearRow_1 (by decide) ?_
  refine x_icmp_lt (tgt := 18) d_Store_clearRow_2 (by decide) (fun hc => ?_) (fun hc => ?_)
  · exact x_le (lv' := [none, none]) (xw_le_n (xw_le_n xw_le_e)) (kt hc)
  · exact kf hc
theorem s_Store_clearRow_5 {G : xw_G} {F L bc bs : Nat} {pr : Option Value → xw_A → Prop} {px : String → xw_A → Prop} {h : xw_A} {a0 : Nat} {x1 : Int32}  (kt : 24 < x1 → xw G m_Store_clearRow F L bc bs pr px 18 [none, none] [] h) (kf : ¬ 24 < x1 → xw G m_Store_clearRow F L bc bs pr px 11 [some (.ref a0), some (.int x1)] [] h) : xw G m_Store_clearRow F L bc bs pr px 5 [some (.ref a0), some (.int x1)] [] h := by
  refine x_iload_n d_Store_clearRow_5 rfl rfl ?_
  refine x_bipush (v := 24) d_Store_clearRow_6 (by decide) ?_
  refine x_icmp_gt (tgt := 18) d_Store_clearRow_8 (by decide) (fun hc => ?_) (fun hc => ?_)
  · exact x_le (lv' := [none, none]) (xw_le_n (xw_le_n xw_le_e)) (kt hc)
  · exact kf hc
theorem s_Store_clearRow_11 {G : xw_G} {F L bc bs : Nat} {pr : Option Value → xw_A → Prop} {px : String → xw_A → Prop} {h : xw_A} {a0 : Nat} {x1 : Int32} {rows_a0 : Nat} {pending_a0 : Option Nat} {segments_a0 : Option Nat} {live_a0 : Option Nat} {pendingCount_a0 : Int32} {pendingEntries_a0 : Int32} {segmentCount_a0 : Int32} {versionsMade_a0 : Int32} {segmentsMade_a0 : Int32} {liveCount_a0 : Int32} {n_rows_a0 : Nat} {f_rows_a0 : Nat → Option Nat} (e_a0 : h a0 = some (.inr (8, [.ref rows_a0, va_rf pending_a0, va_rf segments_a0, va_rf live_a0, .int pendingCount_a0, .int pendingEntries_a0, .int segmentCount_a0, .int versionsMade_a0, .int segmentsMade_a0, .int liveCount_a0]))) (e_rows_a0 : h rows_a0 = some (.inl (10 + 6, n_rows_a0, .inr (.inr (.inr (.inr f_rows_a0)))))) (i_17 : vp_in x1 n_rows_a0) (k : xw G m_Store_clearRow F L bc bs pr px 18 [none, none] [] (xw_up h rows_a0 (.inl (10 + 6, n_rows_a0, .inr (.inr (.inr (.inr (va_up f_rows_a0 x1.toNatClampNeg none)))))))) : xw G m_Store_clearRow F L bc bs pr px 11 [some (.ref a0), some (.int x1)] [] h := by
  refine x_aload_n d_Store_clearRow_11 rfl rfl ?_
  refine x_get d_Store_clearRow_12 f_Store_11 e_a0 rfl ?_
  refine x_iload_n d_Store_clearRow_15 rfl rfl ?_
  refine x_null d_Store_clearRow_16 ?_
  refine x_aastN d_Store_clearRow_17 e_rows_a0 i_17 ?_
  exact x_le (lv' := [none, none]) (xw_le_n (xw_le_n xw_le_e)) (k)
theorem s_Store_clearRow_18 {G : xw_G} {F L bc bs : Nat} {pr : Option Value → xw_A → Prop} {px : String → xw_A → Prop} {h : xw_A}   (kr : pr none h) : xw G m_Store_clearRow F L bc bs pr px 18 [none, none] [] h := by
  exact x_vret d_Store_clearRow_18 rfl kr
theorem s_Store_copyFrom_0 {G : xw_G} {F L bc bs : Nat} {pr : Option Value → xw_A → Prop} {px : String → xw_A → Prop} {h : xw_A} {a0 : Nat} {a1 : Nat}  (k : xw G m_Store_copyFrom F L bc bs pr px 2 [some (.ref a0), some (.ref a1), some (.int 1)] [] h) : xw G m_Store_copyFrom F L bc bs pr px 0 [some (.ref a0), some (.ref a1), none] [] h := by
  refine x_iconst (v := 1) d_Store_copyFrom_0 (by decide) ?_
  refine x_istore_n d_Store_copyFrom_1 rfl (by decide) rfl ?_
  show xw G m_Store_copyFrom F L bc bs pr px 2 [some (.ref a0), some (.ref a1), some (.int 1)] [] h
  exact k
theorem s_Store_copyFrom_2 {G : xw_G} {F L bc bs : Nat} {pr : Option Value → xw_A → Prop} {px : String → xw_A → Prop} {h : xw_A} {a0 : Nat} {a1 : Nat} {x2 : Int32}  (kt : 24 < x2 → xw G m_Store_copyFrom F L bc bs pr px 26 [some (.ref a0), some (.ref a1), none] [] h) (kf : ¬ 24 < x2 → xw G m_Store_copyFrom F L bc bs pr px 8 [some (.ref a0), some (.ref a1), some (.int x2)] [] h) : xw G m_Store_copyFrom F L bc bs pr px 2 [some (.ref a0), some (.ref a1), some (.int x2)] [] h := by
  refine x_iload_n d_Store_copyFrom_2 rfl rfl ?_
  refine x_bipush (v := 24) d_Store_copyFrom_3 (by decide) ?_
  refine x_icmp_gt (tgt := 26) d_Store_copyFrom_5 (by decide) (fun hc => ?_) (fun hc => ?_)
  · exact x_le (lv' := [some (.ref a0), some (.ref a1), none]) (xw_le_s (xw_le_s (xw_le_n xw_le_e))) (kt hc)
  · exact kf hc
theorem s_Store_copyFrom_8 {G : xw_G} {F L bc bs : Nat} {pr : Option Value → xw_A → Prop} {px : String → xw_A → Prop} {h : xw_A} {a0 : Nat} {a1 : Nat} {x2 : Int32} {rows_a0 : Nat} {pending_a0 : Option Nat} {segments_a0 : Option Nat} {live_a0 : Option Nat} {pendingCount_a0 : Int32} {pendingEntries_a0 : Int32} {segmentCount_a0 : Int32} {versionsMade_a0 : Int32} {segmentsMade_a0 : Int32} {liveCount_a0 : Int32} {rows_a1 : Nat} {pending_a1 : Option Nat} {segments_a1 : Option Nat} {live_a1 : Option Nat} {pendingCount_a1 : Int32} {pendingEntries_a1 : Int32} {segmentCount_a1 : Int32} {versionsMade_a1 : Int32} {segmentsMade_a1 : Int32} {liveCount_a1 : Int32} {n_rows_a1 : Nat} {f_rows_a1 : Nat → Option Nat} {g18 : Nat} {n_rows_a0 : Nat} {f_rows_a0 : Nat → Option Nat} {number_g18 : Int32} {row_g18 : Int32} {first_g18 : Option Nat} {second_g18 : Option Nat} {entries_g18 : Int32} (e_a0 : h a0 = some (.inr (8, [.ref rows_a0, va_rf pending_a0, va_rf segments_a0, va_rf live_a0, .int pendingCount_a0, .int pendingEntries_a0, .int segmentCount_a0, .int versionsMade_a0, .int segmentsMade_a0, .int liveCount_a0]))) (e_a1 : h a1 = some (.inr (8, [.ref rows_a1, va_rf pending_a1, va_rf segments_a1, va_rf live_a1, .int pendingCount_a1, .int pendingEntries_a1, .int segmentCount_a1, .int versionsMade_a1, .int segmentsMade_a1, .int liveCount_a1]))) (e_rows_a1 : h rows_a1 = some (.inl (10 + 6, n_rows_a1, .inr (.inr (.inr (.inr f_rows_a1)))))) (i_18 : vp_in x2 n_rows_a1) (g_18 : f_rows_a1 x2.toNatClampNeg = some g18) (e_rows_a0 : h rows_a0 = some (.inl (10 + 6, n_rows_a0, .inr (.inr (.inr (.inr f_rows_a0)))))) (i_19 : vp_in x2 n_rows_a0) (e_g18 : h g18 = some (.inr (10, [.int number_g18, .int row_g18, va_rf first_g18, va_rf second_g18, .int entries_g18]))) (k : xw G m_Store_copyFrom F L bc bs pr px 2 [some (.ref a0), some (.ref a1), some (.int (x2 + 1))] [] (xw_up h rows_a0 (.inl (10 + 6, n_rows_a0, .inr (.inr (.inr (.inr (va_up f_rows_a0 x2.toNatClampNeg (some g18))))))))) : xw G m_Store_copyFrom F L bc bs pr px 8 [some (.ref a0), some (.ref a1), some (.int x2)] [] h := by
  refine x_aload_n d_Store_copyFrom_8 rfl rfl ?_
  refine x_get d_Store_copyFrom_9 f_Store_11 e_a0 rfl ?_
  refine x_iload_n d_Store_copyFrom_12 rfl rfl ?_
  refine x_aload_n d_Store_copyFrom_13 rfl rfl ?_
  refine x_get d_Store_copyFrom_14 f_Store_11 e_a1 rfl ?_
  refine x_iload_n d_Store_copyFrom_17 rfl rfl ?_
  refine x_aald (v := .ref g18) d_Store_copyFrom_18 e_rows_a1 i_18 (by rw [g_18]; rfl) ?_
  refine x_aast d_Store_copyFrom_19 (by decide) e_rows_a0 e_g18 i_19 ?_
  refine x_iinc (v := x2 + 1) d_Store_copyFrom_20 rfl (by rfl) (by decide) rfl ?_
  show xw G m_Store_copyFrom F L bc bs pr px 23 [some (.ref a0), some (.ref a1), some (.int (x2 + 1))] [] (xw_up h rows_a0 (.inl (10 + 6, n_rows_a0, .inr (.inr (.inr (.inr (va_up f_rows_a0 x2.toNatClampNeg (some g18))))))))
  refine x_goto (tgt := 2) d_Store_copyFrom_23 (by decide) ?_
  exact k
theorem s_Store_copyFrom_26 {G : xw_G} {F L bc bs : Nat} {pr : Option Value → xw_A → Prop} {px : String → xw_A → Prop} {h : xw_A} {a0 : Nat} {a1 : Nat} {rows_a1 : Option Nat} {pending_a1 : Option Nat} {segments_a1 : Option Nat} {live_a1 : Option Nat} {pendingCount_a1 : Int32} {pendingEntries_a1 : Int32} {segmentCount_a1 : Int32} {versionsMade_a1 : Int32} {segmentsMade_a1 : Int32} {liveCount_a1 : Int32} {rows_a0 : Option Nat} {pending_a0 : Option Nat} {segments_a0 : Option Nat} {live_a0 : Option Nat} {pendingCount_a0 : Int32} {pendingEntries_a0 : Int32} {segmentCount_a0 : Int32} {versionsMade_a0 : Int32} {segmentsMade_a0 : Int32} {liveCount_a0 : Int32} (e_a1 : h a1 = some (.inr (8, [va_rf rows_a1, va_rf pending_a1, va_rf segments_a1, va_rf live_a1, .int pendingCount_a1, .int pendingEntries_a1, .int segmentCount_a1, .int versionsMade_a1, .int segmentsMade_a1, .int liveCount_a1]))) (e_a0 : h a0 = some (.inr (8, [va_rf rows_a0, va_rf pending_a0, va_rf segments_a0, va_rf live_a0, .int pendingCount_a0, .int pendingEntries_a0, .int segmentCount_a0, .int versionsMade_a0, .int segmentsMade_a0, .int liveCount_a0]))) (k : xw G m_Store_copyFrom F L bc bs pr px 36 [some (.ref a0), some (.ref a1), some (.int 0)] [] (xw_up h a0 (.inr (8, [va_rf rows_a0, va_rf pending_a0, va_rf segments_a0, va_rf live_a0, .int pendingCount_a1, .int pendingEntries_a0, .int segmentCount_a0, .int versionsMade_a0, .int segmentsMade_a0, .int liveCount_a0])))) : xw G m_Store_copyFrom F L bc bs pr px 26 [some (.ref a0), some (.ref a1), none] [] h := by
  refine x_aload_n d_Store_copyFrom_26 rfl rfl ?_
  refine x_aload_n d_Store_copyFrom_27 rfl rfl ?_
  refine x_get d_Store_copyFrom_28 f_Store_45 e_a1 rfl ?_
  refine x_put (ty := .int) d_Store_copyFrom_31 f_Store_45 fw_Store_4.1 fw_Store_4.2 rfl rfl (Nat.le_of_ble_eq_true rfl) e_a0 ?_
  show xw G m_Store_copyFrom F L bc bs pr px 34 [some (.ref a0), some (.ref a1), none] [] (xw_up h a0 (.inr (8, [va_rf rows_a0, va_rf pending_a0, va_rf segments_a0, va_rf live_a0, .int pendingCount_a1, .int pendingEntries_a0, .int segmentCount_a0, .int versionsMade_a0, .int segmentsMade_a0, .int liveCount_a0])))
  refine x_iconst (v := 0) d_Store_copyFrom_34 (by decide) ?_
  refine x_istore_n d_Store_copyFrom_35 rfl (by decide) rfl ?_
  show xw G m_Store_copyFrom F L bc bs pr px 36 [some (.ref a0), some (.ref a1), some (.int 0)] [] (xw_up h a0 (.inr (8, [va_rf rows_a0, va_rf pending_a0, va_rf segments_a0, va_rf live_a0, .int pendingCount_a1, .int pendingEntries_a0, .int segmentCount_a0, .int versionsMade_a0, .int segmentsMade_a0, .int liveCount_a0])))
  exact k
theorem s_Store_copyFrom_36 {G : xw_G} {F L bc bs : Nat} {pr : Option Value → xw_A → Prop} {px : String → xw_A → Prop} {h : xw_A} {a0 : Nat} {a1 : Nat} {x2 : Int32} {rows_a0 : Option Nat} {pending_a0 : Option Nat} {segments_a0 : Option Nat} {live_a0 : Option Nat} {pendingCount_a0 : Int32} {pendingEntries_a0 : Int32} {segmentCount_a0 : Int32} {versionsMade_a0 : Int32} {segmentsMade_a0 : Int32} {liveCount_a0 : Int32} (e_a0 : h a0 = some (.inr (8, [va_rf rows_a0, va_rf pending_a0, va_rf segments_a0, va_rf live_a0, .int pendingCount_a0, .int pendingEntries_a0, .int segmentCount_a0, .int versionsMade_a0, .int segmentsMade_a0, .int liveCount_a0]))) (kt : pendingCount_a0 ≤ x2 → xw G m_Store_copyFrom F L bc bs pr px 62 [some (.ref a0), some (.ref a1), none] [] h) (kf : ¬ pendingCount_a0 ≤ x2 → xw G m_Store_copyFrom F L bc bs pr px 44 [some (.ref a0), some (.ref a1), some (.int x2)] [] h) : xw G m_Store_copyFrom F L bc bs pr px 36 [some (.ref a0), some (.ref a1), some (.int x2)] [] h := by
  refine x_iload_n d_Store_copyFrom_36 rfl rfl ?_
  refine x_aload_n d_Store_copyFrom_37 rfl rfl ?_
  refine x_get d_Store_copyFrom_38 f_Store_45 e_a0 rfl ?_
  refine x_icmp_ge (tgt := 62) d_Store_copyFrom_41 (by decide) (fun hc => ?_) (fun hc => ?_)
  · exact x_le (lv' := [some (.ref a0), some (.ref a1), none]) (xw_le_s (xw_le_s (xw_le_n xw_le_e))) (kt hc)
  · exact kf hc
theorem s_Store_copyFrom_44 {G : xw_G} {F L bc bs : Nat} {pr : Option Value → xw_A → Prop} {px : String → xw_A → Prop} {h : xw_A} {a0 : Nat} {a1 : Nat} {x2 : Int32} {rows_a0 : Option Nat} {pending_a0 : Nat} {segments_a0 : Option Nat} {live_a0 : Option Nat} {pendingCount_a0 : Int32} {pendingEntries_a0 : Int32} {segmentCount_a0 : Int32} {versionsMade_a0 : Int32} {segmentsMade_a0 : Int32} {liveCount_a0 : Int32} {rows_a1 : Option Nat} {pending_a1 : Nat} {segments_a1 : Option Nat} {live_a1 : Option Nat} {pendingCount_a1 : Int32} {pendingEntries_a1 : Int32} {segmentCount_a1 : Int32} {versionsMade_a1 : Int32} {segmentsMade_a1 : Int32} {liveCount_a1 : Int32} {n_pending_a1 : Nat} {f_pending_a1 : Nat → Option Nat} {g54 : Nat} {n_pending_a0 : Nat} {f_pending_a0 : Nat → Option Nat} {number_g54 : Int32} {row_g54 : Int32} {first_g54 : Option Nat} {second_g54 : Option Nat} {entries_g54 : Int32} (e_a0 : h a0 = some (.inr (8, [va_rf rows_a0, .ref pending_a0, va_rf segments_a0, va_rf live_a0, .int pendingCount_a0, .int pendingEntries_a0, .int segmentCount_a0, .int versionsMade_a0, .int segmentsMade_a0, .int liveCount_a0]))) (e_a1 : h a1 = some (.inr (8, [va_rf rows_a1, .ref pending_a1, va_rf segments_a1, va_rf live_a1, .int pendingCount_a1, .int pendingEntries_a1, .int segmentCount_a1, .int versionsMade_a1, .int segmentsMade_a1, .int liveCount_a1]))) (e_pending_a1 : h pending_a1 = some (.inl (10 + 6, n_pending_a1, .inr (.inr (.inr (.inr f_pending_a1)))))) (i_54 : vp_in x2 n_pending_a1) (g_54 : f_pending_a1 x2.toNatClampNeg = some g54) (e_pending_a0 : h pending_a0 = some (.inl (10 + 6, n_pending_a0, .inr (.inr (.inr (.inr f_pending_a0)))))) (i_55 : vp_in x2 n_pending_a0) (e_g54 : h g54 = some (.inr (10, [.int number_g54, .int row_g54, va_rf first_g54, va_rf second_g54, .int entries_g54]))) (k : xw G m_Store_copyFrom F L bc bs pr px 36 [some (.ref a0), some (.ref a1), some (.int (x2 + 1))] [] (xw_up h pending_a0 (.inl (10 + 6, n_pending_a0, .inr (.inr (.inr (.inr (va_up f_pending_a0 x2.toNatClampNeg (some g54))))))))) : xw G m_Store_copyFrom F L bc bs pr px 44 [some (.ref a0), some (.ref a1), some (.int x2)] [] h := by
  refine x_aload_n d_Store_copyFrom_44 rfl rfl ?_
  refine x_get d_Store_copyFrom_45 f_Store_17 e_a0 rfl ?_
  refine x_iload_n d_Store_copyFrom_48 rfl rfl ?_
  refine x_aload_n d_Store_copyFrom_49 rfl rfl ?_
  refine x_get d_Store_copyFrom_50 f_Store_17 e_a1 rfl ?_
  refine x_iload_n d_Store_copyFrom_53 rfl rfl ?_
  refine x_aald (v := .ref g54) d_Store_copyFrom_54 e_pending_a1 i_54 (by rw [g_54]; rfl) ?_
  refine x_aast d_Store_copyFrom_55 (by decide) e_pending_a0 e_g54 i_55 ?_
  refine x_iinc (v := x2 + 1) d_Store_copyFrom_56 rfl (by rfl) (by decide) rfl ?_
  show xw G m_Store_copyFrom F L bc bs pr px 59 [some (.ref a0), some (.ref a1), some (.int (x2 + 1))] [] (xw_up h pending_a0 (.inl (10 + 6, n_pending_a0, .inr (.inr (.inr (.inr (va_up f_pending_a0 x2.toNatClampNeg (some g54))))))))
  refine x_goto (tgt := 36) d_Store_copyFrom_59 (by decide) ?_
  exact k
theorem s_Store_copyFrom_62 {G : xw_G} {F L bc bs : Nat} {pr : Option Value → xw_A → Prop} {px : String → xw_A → Prop} {h : xw_A} {a0 : Nat} {a1 : Nat} {rows_a1 : Option Nat} {pending_a1 : Option Nat} {segments_a1 : Option Nat} {live_a1 : Option Nat} {pendingCount_a1 : Int32} {pendingEntries_a1 : Int32} {segmentCount_a1 : Int32} {versionsMade_a1 : Int32} {segmentsMade_a1 : Int32} {liveCount_a1 : Int32} {rows_a0 : Option Nat} {pending_a0 : Option Nat} {segments_a0 : Option Nat} {live_a0 : Option Nat} {pendingCount_a0 : Int32} {pendingEntries_a0 : Int32} {segmentCount_a0 : Int32} {versionsMade_a0 : Int32} {segmentsMade_a0 : Int32} {liveCount_a0 : Int32} (e_a1 : h a1 = some (.inr (8, [va_rf rows_a1, va_rf pending_a1, va_rf segments_a1, va_rf live_a1, .int pendingCount_a1, .int pendingEntries_a1, .int segmentCount_a1, .int versionsMade_a1, .int segmentsMade_a1, .int liveCount_a1]))) (e_a0 : h a0 = some (.inr (8, [va_rf rows_a0, va_rf pending_a0, va_rf segments_a0, va_rf live_a0, .int pendingCount_a0, .int pendingEntries_a0, .int segmentCount_a0, .int versionsMade_a0, .int segmentsMade_a0, .int liveCount_a0]))) (n_a1_a0 : a1 ≠ a0) (k : xw G m_Store_copyFrom F L bc bs pr px 80 [some (.ref a0), some (.ref a1), some (.int 0)] [] (xw_up (xw_up h a0 (.inr (8, [va_rf rows_a0, va_rf pending_a0, va_rf segments_a0, va_rf live_a0, .int pendingCount_a0, .int pendingEntries_a1, .int segmentCount_a0, .int versionsMade_a0, .int segmentsMade_a0, .int liveCount_a0]))) a0 (.inr (8, [va_rf rows_a0, va_rf pending_a0, va_rf segments_a0, va_rf live_a0, .int pendingCount_a0, .int pendingEntries_a1, .int segmentCount_a1, .int versionsMade_a0, .int segmentsMade_a0, .int liveCount_a0])))) : xw G m_Store_copyFrom F L bc bs pr px 62 [some (.ref a0), some (.ref a1), none] [] h := by
  refine x_aload_n d_Store_copyFrom_62 rfl rfl ?_
  refine x_aload_n d_Store_copyFrom_63 rfl rfl ?_
  refine x_get d_Store_copyFrom_64 f_Store_48 e_a1 rfl ?_
  refine x_put (ty := .int) d_Store_copyFrom_67 f_Store_48 fw_Store_5.1 fw_Store_5.2 rfl rfl (Nat.le_of_ble_eq_true rfl) e_a0 ?_
  show xw G m_Store_copyFrom F L bc bs pr px 70 [some (.ref a0), some (.ref a1), none] [] (xw_up h a0 (.inr (8, [va_rf rows_a0, va_rf pending_a0, va_rf segments_a0, va_rf live_a0, .int pendingCount_a0, .int pendingEntries_a1, .int segmentCount_a0, .int versionsMade_a0, .int segmentsMade_a0, .int liveCount_a0])))
  refine x_aload_n d_Store_copyFrom_70 rfl rfl ?_
  refine x_aload_n d_Store_copyFrom_71 rfl rfl ?_
  refine x_get d_Store_copyFrom_72 f_Store_70 ((xw_up_n _ _ n_a1_a0).trans e_a1) rfl ?_
  refine x_put (ty := .int) d_Store_copyFrom_75 f_Store_70 fw_Store_6.1 fw_Store_6.2 rfl rfl (Nat.le_of_ble_eq_true rfl) (xw_up_s _ _ _) ?_
  show xw G m_Store_copyFrom F L bc bs pr px 78 [some (.ref a0), some (.ref a1), none] [] (xw_up (xw_up h a0 (.inr (8, [va_rf rows_a0, va_rf pending_a0, va_rf segments_a0, va_rf live_a0, .int pendingCount_a0, .int pendingEntries_a1, .int segmentCount_a0, .int versionsMade_a0, .int segmentsMade_a0, .int liveCount_a0]))) a0 (.inr (8, [va_rf rows_a0, va_rf pending_a0, va_rf segments_a0, va_rf live_a0, .int pendingCount_a0, .int pendingEntries_a1, .int segmentCount_a1, .int versionsMade_a0, .int segmentsMade_a0, .int liveCount_a0])))
  refine x_iconst (v := 0) d_Store_copyFrom_78 (by decide) ?_
  refine x_istore_n d_Store_copyFrom_79 rfl (by decide) rfl ?_
  show xw G m_Store_copyFrom F L bc bs pr px 80 [some (.ref a0), some (.ref a1), some (.int 0)] [] (xw_up (xw_up h a0 (.inr (8, [va_rf rows_a0, va_rf pending_a0, va_rf segments_a0, va_rf live_a0, .int pendingCount_a0, .int pendingEntries_a1, .int segmentCount_a0, .int versionsMade_a0, .int segmentsMade_a0, .int liveCount_a0]))) a0 (.inr (8, [va_rf rows_a0, va_rf pending_a0, va_rf segments_a0, va_rf live_a0, .int pendingCount_a0, .int pendingEntries_a1, .int segmentCount_a1, .int versionsMade_a0, .int segmentsMade_a0, .int liveCount_a0])))
  exact k
theorem s_Store_copyFrom_80 {G : xw_G} {F L bc bs : Nat} {pr : Option Value → xw_A → Prop} {px : String → xw_A → Prop} {h : xw_A} {a0 : Nat} {a1 : Nat} {x2 : Int32} {rows_a0 : Option Nat} {pending_a0 : Option Nat} {segments_a0 : Option Nat} {live_a0 : Option Nat} {pendingCount_a0 : Int32} {pendingEntries_a0 : Int32} {segmentCount_a0 : Int32} {versionsMade_a0 : Int32} {segmentsMade_a0 : Int32} {liveCount_a0 : Int32} (e_a0 : h a0 = some (.inr (8, [va_rf rows_a0, va_rf pending_a0, va_rf segments_a0, va_rf live_a0, .int pendingCount_a0, .int pendingEntries_a0, .int segmentCount_a0, .int versionsMade_a0, .int segmentsMade_a0, .int liveCount_a0]))) (kt : segmentCount_a0 ≤ x2 → xw G m_Store_copyFrom F L bc bs pr px 106 [none, none, none] [] h) (kf : ¬ segmentCount_a0 ≤ x2 → xw G m_Store_copyFrom F L bc bs pr px 88 [some (.ref a0), some (.ref a1), some (.int x2)] [] h) : xw G m_Store_copyFrom F L bc bs pr px 80 [some (.ref a0), some (.ref a1), some (.int x2)] [] h := by
  refine x_iload_n d_Store_copyFrom_80 rfl rfl ?_
  refine x_aload_n d_Store_copyFrom_81 rfl rfl ?_
  refine x_get d_Store_copyFrom_82 f_Store_70 e_a0 rfl ?_
  refine x_icmp_ge (tgt := 106) d_Store_copyFrom_85 (by decide) (fun hc => ?_) (fun hc => ?_)
  · exact x_le (lv' := [none, none, none]) (xw_le_n (xw_le_n (xw_le_n xw_le_e))) (kt hc)
  · exact kf hc
theorem s_Store_copyFrom_88 {G : xw_G} {F L bc bs : Nat} {pr : Option Value → xw_A → Prop} {px : String → xw_A → Prop} {h : xw_A} {a0 : Nat} {a1 : Nat} {x2 : Int32} {rows_a0 : Option Nat} {pending_a0 : Option Nat} {segments_a0 : Nat} {live_a0 : Option Nat} {pendingCount_a0 : Int32} {pendingEntries_a0 : Int32} {segmentCount_a0 : Int32} {versionsMade_a0 : Int32} {segmentsMade_a0 : Int32} {liveCount_a0 : Int32} {rows_a1 : Option Nat} {pending_a1 : Option Nat} {segments_a1 : Nat} {live_a1 : Option Nat} {pendingCount_a1 : Int32} {pendingEntries_a1 : Int32} {segmentCount_a1 : Int32} {versionsMade_a1 : Int32} {segmentsMade_a1 : Int32} {liveCount_a1 : Int32} {n_segments_a1 : Nat} {f_segments_a1 : Nat → Option Nat} {g98 : Nat} {n_segments_a0 : Nat} {f_segments_a0 : Nat → Option Nat} {level_g98 : Int32} {versions_g98 : Option Nat} {entries_g98 : Int32} (e_a0 : h a0 = some (.inr (8, [va_rf rows_a0, va_rf pending_a0, .ref segments_a0, va_rf live_a0, .int pendingCount_a0, .int pendingEntries_a0, .int segmentCount_a0, .int versionsMade_a0, .int segmentsMade_a0, .int liveCount_a0]))) (e_a1 : h a1 = some (.inr (8, [va_rf rows_a1, va_rf pending_a1, .ref segments_a1, va_rf live_a1, .int pendingCount_a1, .int pendingEntries_a1, .int segmentCount_a1, .int versionsMade_a1, .int segmentsMade_a1, .int liveCount_a1]))) (e_segments_a1 : h segments_a1 = some (.inl (6 + 6, n_segments_a1, .inr (.inr (.inr (.inr f_segments_a1)))))) (i_98 : vp_in x2 n_segments_a1) (g_98 : f_segments_a1 x2.toNatClampNeg = some g98) (e_segments_a0 : h segments_a0 = some (.inl (6 + 6, n_segments_a0, .inr (.inr (.inr (.inr f_segments_a0)))))) (i_99 : vp_in x2 n_segments_a0) (e_g98 : h g98 = some (.inr (6, [.int level_g98, va_rf versions_g98, .int entries_g98]))) (k : xw G m_Store_copyFrom F L bc bs pr px 80 [some (.ref a0), some (.ref a1), some (.int (x2 + 1))] [] (xw_up h segments_a0 (.inl (6 + 6, n_segments_a0, .inr (.inr (.inr (.inr (va_up f_segments_a0 x2.toNatClampNeg (some g98))))))))) : xw G m_Store_copyFrom F L bc bs pr px 88 [some (.ref a0), some (.ref a1), some (.int x2)] [] h := by
  refine x_aload_n d_Store_copyFrom_88 rfl rfl ?_
  refine x_get d_Store_copyFrom_89 f_Store_22 e_a0 rfl ?_
  refine x_iload_n d_Store_copyFrom_92 rfl rfl ?_
  refine x_aload_n d_Store_copyFrom_93 rfl rfl ?_
  refine x_get d_Store_copyFrom_94 f_Store_22 e_a1 rfl ?_
  refine x_iload_n d_Store_copyFrom_97 rfl rfl ?_
  refine x_aald (v := .ref g98) d_Store_copyFrom_98 e_segments_a1 i_98 (by rw [g_98]; rfl) ?_
  refine x_aast d_Store_copyFrom_99 (by decide) e_segments_a0 e_g98 i_99 ?_
  refine x_iinc (v := x2 + 1) d_Store_copyFrom_100 rfl (by rfl) (by decide) rfl ?_
  show xw G m_Store_copyFrom F L bc bs pr px 103 [some (.ref a0), some (.ref a1), some (.int (x2 + 1))] [] (xw_up h segments_a0 (.inl (6 + 6, n_segments_a0, .inr (.inr (.inr (.inr (va_up f_segments_a0 x2.toNatClampNeg (some g98))))))))
  refine x_goto (tgt := 80) d_Store_copyFrom_103 (by decide) ?_
  exact k
theorem s_Store_copyFrom_106 {G : xw_G} {F L bc bs : Nat} {pr : Option Value → xw_A → Prop} {px : String → xw_A → Prop} {h : xw_A}   (kr : pr none h) : xw G m_Store_copyFrom F L bc bs pr px 106 [none, none, none] [] h := by
  exact x_vret d_Store_copyFrom_106 rfl kr
theorem s_Store_rowCount_0 {G : xw_G} {F L bc bs : Nat} {pr : Option Value → xw_A → Prop} {px : String → xw_A → Prop} {h : xw_A} {a0 : Nat}  (k : xw G m_Store_rowCount F L bc bs pr px 4 [some (.ref a0), some (.int 0), some (.int 1)] [] h) : xw G m_Store_rowCount F L bc bs pr px 0 [some (.ref a0), none, none] [] h := by
  refine x_iconst (v := 0) d_Store_rowCount_0 (by decide) ?_
  refine x_istore_n d_Store_rowCount_1 rfl (by decide) rfl ?_
  show xw G m_Store_rowCount F L bc bs pr px 2 [some (.ref a0), some (.int 0), none] [] h
  refine x_iconst (v := 1) d_Store_rowCount_2 (by decide) ?_
  refine x_istore_n d_Store_rowCount_3 rfl (by decide) rfl ?_
  show xw G m_Store_rowCount F L bc bs pr px 4 [some (.ref a0), some (.int 0), some (.int 1)] [] h
  exact k
theorem s_Store_rowCount_4 {G : xw_G} {F L bc bs : Nat} {pr : Option Value → xw_A → Prop} {px : String → xw_A → Prop} {h : xw_A} {a0 : Nat} {x1 : Int32} {x2 : Int32}  (kt : 24 < x2 → xw G m_Store_rowCount F L bc bs pr px 28 [none, some (.int x1), none] [] h) (kf : ¬ 24 < x2 → xw G m_Store_rowCount F L bc bs pr px 10 [some (.ref a0), some (.int x1), some (.int x2)] [] h) : xw G m_Store_rowCount F L bc bs pr px 4 [some (.ref a0), some (.int x1), some (.int x2)] [] h := by
  refine x_iload_n d_Store_rowCount_4 rfl rfl ?_
  refine x_bipush (v := 24) d_Store_rowCount_5 (by decide) ?_
  refine x_icmp_gt (tgt := 28) d_Store_rowCount_7 (by decide) (fun hc => ?_) (fun hc => ?_)
  · exact x_le (lv' := [none, some (.int x1), none]) (xw_le_n (xw_le_s (xw_le_n xw_le_e))) (kt hc)
  · exact kf hc
theorem s_Store_rowCount_10 {G : xw_G} {F L bc bs : Nat} {pr : Option Value → xw_A → Prop} {px : String → xw_A → Prop} {h : xw_A} {a0 : Nat} {x1 : Int32} {x2 : Int32} {rows_a0 : Nat} {pending_a0 : Option Nat} {segments_a0 : Option Nat} {live_a0 : Option Nat} {pendingCount_a0 : Int32} {pendingEntries_a0 : Int32} {segmentCount_a0 : Int32} {versionsMade_a0 : Int32} {segmentsMade_a0 : Int32} {liveCount_a0 : Int32} {n_rows_a0 : Nat} {f_rows_a0 : Nat → Option Nat} (e_a0 : h a0 = some (.inr (8, [.ref rows_a0, va_rf pending_a0, va_rf segments_a0, va_rf live_a0, .int pendingCount_a0, .int pendingEntries_a0, .int segmentCount_a0, .int versionsMade_a0, .int segmentsMade_a0, .int liveCount_a0]))) (e_rows_a0 : h rows_a0 = some (.inl (10 + 6, n_rows_a0, .inr (.inr (.inr (.inr f_rows_a0)))))) (i_15 : vp_in x2 n_rows_a0) (kn : (f_rows_a0 x2.toNatClampNeg) = none → xw G m_Store_rowCount F L bc bs pr px 22 [some (.ref a0), some (.int x1), some (.int x2)] [] h) (ks : ∀ a9 : Nat, (f_rows_a0 x2.toNatClampNeg) = some a9 → xw G m_Store_rowCount F L bc bs pr px 19 [some (.ref a0), some (.int x1), some (.int x2)] [] h) : xw G m_Store_rowCount F L bc bs pr px 10 [some (.ref a0), some (.int x1), some (.int x2)] [] h := by
  refine x_aload_n d_Store_rowCount_10 rfl rfl ?_
  refine x_get d_Store_rowCount_11 f_Store_11 e_a0 rfl ?_
  refine x_iload_n d_Store_rowCount_14 rfl rfl ?_
  refine x_aald d_Store_rowCount_15 e_rows_a0 i_15 rfl ?_
  refine x_ifnullq (tgt := 22) d_Store_rowCount_16 (by decide) (fun hc => ?_) (fun a9 hc => ?_)
  · exact kn hc
  · exact ks a9 hc
theorem s_Store_rowCount_19 {G : xw_G} {F L bc bs : Nat} {pr : Option Value → xw_A → Prop} {px : String → xw_A → Prop} {h : xw_A} {a0 : Nat} {x1 : Int32} {x2 : Int32}  (k : xw G m_Store_rowCount F L bc bs pr px 22 [some (.ref a0), some (.int (x1 + 1)), some (.int x2)] [] h) : xw G m_Store_rowCount F L bc bs pr px 19 [some (.ref a0), some (.int x1), some (.int x2)] [] h := by
  refine x_iinc (v := x1 + 1) d_Store_rowCount_19 rfl (by rfl) (by decide) rfl ?_
  show xw G m_Store_rowCount F L bc bs pr px 22 [some (.ref a0), some (.int (x1 + 1)), some (.int x2)] [] h
  exact k
theorem s_Store_rowCount_22 {G : xw_G} {F L bc bs : Nat} {pr : Option Value → xw_A → Prop} {px : String → xw_A → Prop} {h : xw_A} {a0 : Nat} {x1 : Int32} {x2 : Int32}  (k : xw G m_Store_rowCount F L bc bs pr px 4 [some (.ref a0), some (.int x1), some (.int (x2 + 1))] [] h) : xw G m_Store_rowCount F L bc bs pr px 22 [some (.ref a0), some (.int x1), some (.int x2)] [] h := by
  refine x_iinc (v := x2 + 1) d_Store_rowCount_22 rfl (by rfl) (by decide) rfl ?_
  show xw G m_Store_rowCount F L bc bs pr px 25 [some (.ref a0), some (.int x1), some (.int (x2 + 1))] [] h
  refine x_goto (tgt := 4) d_Store_rowCount_25 (by decide) ?_
  exact k
theorem s_Store_rowCount_28 {G : xw_G} {F L bc bs : Nat} {pr : Option Value → xw_A → Prop} {px : String → xw_A → Prop} {h : xw_A} {x1 : Int32}  (kr : pr (some (.int x1)) h) : xw G m_Store_rowCount F L bc bs pr px 28 [none, some (.int x1), none] [] h := by
  refine x_iload_n d_Store_rowCount_28 rfl rfl ?_
  exact x_iret d_Store_rowCount_29 rfl kr
theorem s_Store_tokenCount_0 {G : xw_G} {F L bc bs : Nat} {pr : Option Value → xw_A → Prop} {px : String → xw_A → Prop} {h : xw_A} {a0 : Nat}  (k : xw G m_Store_tokenCount F L bc bs pr px 4 [some (.ref a0), some (.int 0), some (.int 1)] [] h) : xw G m_Store_tokenCount F L bc bs pr px 0 [some (.ref a0), none, none] [] h := by
  refine x_iconst (v := 0) d_Store_tokenCount_0 (by decide) ?_
  refine x_istore_n d_Store_tokenCount_1 rfl (by decide) rfl ?_
  show xw G m_Store_tokenCount F L bc bs pr px 2 [some (.ref a0), some (.int 0), none] [] h
  refine x_iconst (v := 1) d_Store_tokenCount_2 (by decide) ?_
  refine x_istore_n d_Store_tokenCount_3 rfl (by decide) rfl ?_
  show xw G m_Store_tokenCount F L bc bs pr px 4 [some (.ref a0), some (.int 0), some (.int 1)] [] h
  exact k
theorem s_Store_tokenCount_4 {G : xw_G} {F L bc bs : Nat} {pr : Option Value → xw_A → Prop} {px : String → xw_A → Prop} {h : xw_A} {a0 : Nat} {x1 : Int32} {x2 : Int32}  (kt : 24 < x2 → xw G m_Store_tokenCount F L bc bs pr px 37 [none, some (.int x1), none] [] h) (kf : ¬ 24 < x2 → xw G m_Store_tokenCount F L bc bs pr px 10 [some (.ref a0), some (.int x1), some (.int x2)] [] h) : xw G m_Store_tokenCount F L bc bs pr px 4 [some (.ref a0), some (.int x1), some (.int x2)] [] h := by
  refine x_iload_n d_Store_tokenCount_4 rfl rfl ?_
  refine x_bipush (v := 24) d_Store_tokenCount_5 (by decide) ?_
  refine x_icmp_gt (tgt := 37) d_Store_tokenCount_7 (by decide) (fun hc => ?_) (fun hc => ?_)
  · exact x_le (lv' := [none, some (.int x1), none]) (xw_le_n (xw_le_s (xw_le_n xw_le_e))) (kt hc)
  · exact kf hc
theorem s_Store_tokenCount_10 {G : xw_G} {F L bc bs : Nat} {pr : Option Value → xw_A → Prop} {px : String → xw_A → Prop} {h : xw_A} {a0 : Nat} {x1 : Int32} {x2 : Int32} {rows_a0 : Nat} {pending_a0 : Option Nat} {segments_a0 : Option Nat} {live_a0 : Option Nat} {pendingCount_a0 : Int32} {pendingEntries_a0 : Int32} {segmentCount_a0 : Int32} {versionsMade_a0 : Int32} {segmentsMade_a0 : Int32} {liveCount_a0 : Int32} {n_rows_a0 : Nat} {f_rows_a0 : Nat → Option Nat} (e_a0 : h a0 = some (.inr (8, [.ref rows_a0, va_rf pending_a0, va_rf segments_a0, va_rf live_a0, .int pendingCount_a0, .int pendingEntries_a0, .int segmentCount_a0, .int versionsMade_a0, .int segmentsMade_a0, .int liveCount_a0]))) (e_rows_a0 : h rows_a0 = some (.inl (10 + 6, n_rows_a0, .inr (.inr (.inr (.inr f_rows_a0)))))) (i_15 : vp_in x2 n_rows_a0) (kn : (f_rows_a0 x2.toNatClampNeg) = none → xw G m_Store_tokenCount F L bc bs pr px 31 [some (.ref a0), some (.int x1), some (.int x2)] [] h) (ks : ∀ a9 : Nat, (f_rows_a0 x2.toNatClampNeg) = some a9 → xw G m_Store_tokenCount F L bc bs pr px 19 [some (.ref a0), some (.int x1), some (.int x2)] [] h) : xw G m_Store_tokenCount F L bc bs pr px 10 [some (.ref a0), some (.int x1), some (.int x2)] [] h := by
  refine x_aload_n d_Store_tokenCount_10 rfl rfl ?_
  refine x_get d_Store_tokenCount_11 f_Store_11 e_a0 rfl ?_
  refine x_iload_n d_Store_tokenCount_14 rfl rfl ?_
  refine x_aald d_Store_tokenCount_15 e_rows_a0 i_15 rfl ?_
  refine x_ifnullq (tgt := 31) d_Store_tokenCount_16 (by decide) (fun hc => ?_) (fun a9 hc => ?_)
  · exact kn hc
  · exact ks a9 hc
theorem s_Store_tokenCount_19 {G : xw_G} {F L bc bs : Nat} {pr : Option Value → xw_A → Prop} {px : String → xw_A → Prop} {h : xw_A} {a0 : Nat} {x1 : Int32} {x2 : Int32} {rows_a0 : Nat} {pending_a0 : Option Nat} {segments_a0 : Option Nat} {live_a0 : Option Nat} {pendingCount_a0 : Int32} {pendingEntries_a0 : Int32} {segmentCount_a0 : Int32} {versionsMade_a0 : Int32} {segmentsMade_a0 : Int32} {liveCount_a0 : Int32} {n_rows_a0 : Nat} {f_rows_a0 : Nat → Option Nat} (e_a0 : h a0 = some (.inr (8, [.ref rows_a0, va_rf pending_a0, va_rf segments_a0, va_rf live_a0, .int pendingCount_a0, .int pendingEntries_a0, .int segmentCount_a0, .int versionsMade_a0, .int segmentsMade_a0, .int liveCount_a0]))) (e_rows_a0 : h rows_a0 = some (.inl (10 + 6, n_rows_a0, .inr (.inr (.inr (.inr f_rows_a0)))))) (i_25 : vp_in x2 n_rows_a0) (k : xw G m_Store_tokenCount F L bc bs pr px 26 [some (.ref a0), some (.int x1), some (.int x2)] [va_rf (f_rows_a0 x2.toNatClampNeg), .int x1] h) : xw G m_Store_tokenCount F L bc bs pr px 19 [some (.ref a0), some (.int x1), some (.int x2)] [] h := by
  refine x_iload_n d_Store_tokenCount_19 rfl rfl ?_
  refine x_aload_n d_Store_tokenCount_20 rfl rfl ?_
  refine x_get d_Store_tokenCount_21 f_Store_11 e_a0 rfl ?_
  refine x_iload_n d_Store_tokenCount_24 rfl rfl ?_
  refine x_aald d_Store_tokenCount_25 e_rows_a0 i_25 rfl ?_
  exact k
theorem s_Store_tokenCount_29 {G : xw_G} {F L bc bs : Nat} {pr : Option Value → xw_A → Prop} {px : String → xw_A → Prop} {h : xw_A} {a0 : Nat} {x2 : Int32} {y0 : Int32} {y1 : Int32}  (k : xw G m_Store_tokenCount F L bc bs pr px 31 [some (.ref a0), some (.int (y1 + y0)), some (.int x2)] [] h) : xw G m_Store_tokenCount F L bc bs pr px 29 [some (.ref a0), none, some (.int x2)] [.int y0, .int y1] h := by
  refine x_iadd d_Store_tokenCount_29 ?_
  refine x_istore_n d_Store_tokenCount_30 rfl (by decide) rfl ?_
  show xw G m_Store_tokenCount F L bc bs pr px 31 [some (.ref a0), some (.int (y1 + y0)), some (.int x2)] [] h
  exact k
theorem s_Store_tokenCount_31 {G : xw_G} {F L bc bs : Nat} {pr : Option Value → xw_A → Prop} {px : String → xw_A → Prop} {h : xw_A} {a0 : Nat} {x1 : Int32} {x2 : Int32}  (k : xw G m_Store_tokenCount F L bc bs pr px 4 [some (.ref a0), some (.int x1), some (.int (x2 + 1))] [] h) : xw G m_Store_tokenCount F L bc bs pr px 31 [some (.ref a0), some (.int x1), some (.int x2)] [] h := by
  refine x_iinc (v := x2 + 1) d_Store_tokenCount_31 rfl (by rfl) (by decide) rfl ?_
  show xw G m_Store_tokenCount F L bc bs pr px 34 [some (.ref a0), some (.int x1), some (.int (x2 + 1))] [] h
  refine x_goto (tgt := 4) d_Store_tokenCount_34 (by decide) ?_
  exact k
theorem s_Store_tokenCount_37 {G : xw_G} {F L bc bs : Nat} {pr : Option Value → xw_A → Prop} {px : String → xw_A → Prop} {h : xw_A} {x1 : Int32}  (kr : pr (some (.int x1)) h) : xw G m_Store_tokenCount F L bc bs pr px 37 [none, some (.int x1), none] [] h := by
  refine x_iload_n d_Store_tokenCount_37 rfl rfl ?_
  exact x_iret d_Store_tokenCount_38 rfl kr
