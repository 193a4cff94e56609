/-! the class in general states: by program (wip/tools/gen2.py) -/
set_option maxHeartbeats 1000000 in
theorem lp_isName {G : xw_G} {F L bc bs : Nat} {pr : Option Value → xw_A → Prop} {px : String → xw_A → Prop} {h : xw_A} {po k1 k2 k3 d ln : Nat} {fd : Nat → Int32} (e_po : h po = some (.inr (3, [.ref k1, .ref k2, .ref k3, .ref d, .int (nI ln)]))) (e_d : h d = some (.inl (1, 96, .inl fd))) (hln : ln ≤ 96) {q b n : Nat} {f : Nat → Int32} (hS : xw_Str G q b n f) (hn : n < 2 ^ 31) {a : Nat} (han : a + n ≤ 96) (hF : 5 ≤ F) (hL : 181 ≤ L) (kk : ∀ y : Int32, (y = 0 ∨ y = 1) → pr (some (.int y)) h) :
    ∀ (dd i : Nat) , i + dd = n → xw G m_Parts_isName F L bc bs pr px 15 [some (.ref po), some (.int (nI a)), none, some (.ref q), some (.int (nI i))] [] h := by
  intro dd
  induction dd with
  | zero =>
    intro i  hi
    obtain rfl : n = i := by omega
    refine s_Parts_isName_15 ?_
    refine x_callVS (As := []) (b := q) (rest := [.int (nI n)]) (F1 := 2) (L1 := 60) (mc := 0) (ms := 0) d_Parts_isName_18 cV_Parts_70 (j_length hS hn (by omega) (by omega)) hS rfl ⟨by omega, by show 8 + (1 + 11) + 60 ≤ _; omega⟩ ⟨by omega, by omega⟩ (Nat.le_of_ble_eq_true rfl) (fun v_2 h_1 p_3 => ?_)
    obtain ⟨rfl, rfl⟩ := p_3
    refine s_Parts_isName_21 (fun z_4 => ?_) (fun z => absurd (nI_le (Nat.le_refl _) (by omega)) z)
    refine s_Parts_isName_50 ?_
    exact kk _ (by simp)
  | succ dd ih =>
    intro i  hi
    refine s_Parts_isName_15 ?_
    refine x_callVS (As := []) (b := q) (rest := [.int (nI i)]) (F1 := 2) (L1 := 60) (mc := 0) (ms := 0) d_Parts_isName_18 cV_Parts_70 (j_length hS hn (by omega) (by omega)) hS rfl ⟨by omega, by show 8 + (1 + 11) + 60 ≤ _; omega⟩ ⟨by omega, by omega⟩ (Nat.le_of_ble_eq_true rfl) (fun v_2 h_1 p_3 => ?_)
    obtain ⟨rfl, rfl⟩ := p_3
    refine s_Parts_isName_21 (fun z => absurd z (nI_ge (b := n) (show i < n by omega) (by omega))) (fun z_4 => ?_)
    refine s_Parts_isName_24 (kinds_a0 := some k1) (starts_a0 := some k2) (ends_a0 := some k3) e_po e_d (by rw [nI_add]; exact vp_in_nI (by omega) (by decide)) ?_
    refine x_callVS (As := [.int (nI i)]) (b := q) (rest := [.int (fd ((nI a) + (nI i)).toNatClampNeg)]) (F1 := 4) (L1 := 160) (mc := 0) (ms := 0) d_Parts_isName_36 cV_Parts_73 (j_charAt hS hn (show i < n by omega) (by omega) (by omega)) hS rfl ⟨by omega, by show 8 + (2 + 11) + 160 ≤ _; omega⟩ ⟨by omega, by omega⟩ (Nat.le_of_ble_eq_true rfl) (fun v_6 h_5 p_7 => ?_)
    obtain ⟨rfl, rfl⟩ := p_7
    refine s_Parts_isName_39 (fun z_8 => ?_) (fun z_9 => ?_)
    · skip
      refine s_Parts_isName_44 ?_
      rw [nI_1]
      exact ih (i + 1) (by omega)
    · skip
      refine s_Parts_isName_42 ?_
      exact kk _ (by simp)
set_option maxHeartbeats 400000 in
theorem g_isName {G : xw_G} {F L : Nat} {h : xw_A} {po k1 k2 k3 d ln : Nat} {fd : Nat → Int32} (e_po : h po = some (.inr (3, [.ref k1, .ref k2, .ref k3, .ref d, .int (nI ln)]))) (e_d : h d = some (.inl (1, 96, .inl fd))) (hln : ln ≤ 96) {q b n : Nat} {f : Nat → Int32} (hS : xw_Str G q b n f) (hn : n < 2 ^ 31) {a e : Nat} (hae : a ≤ e) (hel : e ≤ ln) (hF : 5 ≤ F) (hL : 181 ≤ L) :
    xw_Met G m_Parts_isName F L 0 0 [.ref po, .int (nI a), .int (nI e), .ref q] h (fun v h' => (∃ y : Int32, v = some (.int y) ∧ (y = 0 ∨ y = 1)) ∧ h = h') (fun _ _ => False) := by
  refine xw_Met.of rfl (by decide) (Nat.le_of_ble_eq_true rfl) ?_
  refine s_Parts_isName_0 ?_
  refine x_callVS (As := []) (b := q) (rest := [.int ((nI e) - (nI a))]) (F1 := 2) (L1 := 60) (mc := 0) (ms := 0) d_Parts_isName_4 cV_Parts_70 (j_length hS hn (by omega) (by omega)) hS rfl ⟨by omega, by show 8 + (1 + 11) + 60 ≤ _; omega⟩ ⟨by omega, by omega⟩ (Nat.le_of_ble_eq_true rfl) (fun v_2 h_1 p_3 => ?_)
  obtain ⟨rfl, rfl⟩ := p_3
  refine x_le (xw_le_s (xw_le_s (xw_le_n (xw_le_s (xw_le_n xw_le_e))))) ?_
  refine s_Parts_isName_7 (fun z_4 => ?_) (fun z_5 => ?_)
  · skip
    refine s_Parts_isName_12 ?_
    have hz9 : e - a = n := by rw [pk_sub hae] at z_4; exact (nI_eq (by omega) (by omega)).mp z_4
    exact lp_isName e_po e_d hln hS hn (show a + n ≤ 96 by omega) (by omega) (by omega) (fun y hy => ⟨⟨y, rfl, hy⟩, rfl⟩) n 0 (Nat.zero_add _)
  · skip
    refine s_Parts_isName_10 ?_
    exact ⟨⟨_, rfl, by simp⟩, rfl⟩
set_option maxHeartbeats 400000 in
theorem g_wordKind {G : xw_G} {F L : Nat} {h : xw_A} {po k1 k2 k3 d ln : Nat} {fd : Nat → Int32} (e_po : h po = some (.inr (3, [.ref k1, .ref k2, .ref k3, .ref d, .int (nI ln)]))) (e_d : h d = some (.inl (1, 96, .inl fd))) (hln : ln ≤ 96) {a e : Nat} (hae : a ≤ e) (hel : e ≤ ln) (hF : 6 ≤ F) (hL : 205 ≤ L) :
    xw_Met G m_Parts_wordKind F L 0 0 [.ref po, .int (nI a), .int (nI e)] h (fun v h' => (∃ y : Int32, v = some (.int y) ∧ ¬ y = 0 ∧ ¬ y = 1 ∧ (y = 3 → e < ln ∧ fd e = 58)) ∧ h = h') (fun _ _ => False) := by
  refine xw_Met.of rfl (by decide) (Nat.le_of_ble_eq_true rfl) ?_
  refine s_Parts_wordKind_0 ?_
  refine x_ldcS d_Parts_wordKind_3 st_58 (by decide) (fun q_1 b_2 hS_3 => ?_)
  refine x_callV (As := [.int (nI a), .int (nI e), .ref q_1]) (b := po) (rest := []) (F1 := 5) (L1 := 181) (mc := 0) (ms := 0) d_Parts_wordKind_5 cV_Parts_60 (g_isName e_po e_d hln hS_3 (by decide) hae hel (by omega) (by omega)) e_po ⟨by decide, rfl⟩ ⟨by omega, by show 8 + (5 + 11) + 181 ≤ _; omega⟩ ⟨by omega, by omega⟩ (Nat.le_of_ble_eq_true rfl) (fun v_7 h_6 p_8 => ?_)
  obtain ⟨⟨y_4, rfl, hy_5⟩, rfl⟩ := p_8
  refine s_Parts_wordKind_8 (fun z_9 => ?_) (fun z_10 => ?_)
  · skip
    refine s_Parts_wordKind_13 ?_
    refine x_ldcS d_Parts_wordKind_16 st_64 (by decide) (fun q_11 b_12 hS_13 => ?_)
    refine x_callV (As := [.int (nI a), .int (nI e), .ref q_11]) (b := po) (rest := []) (F1 := 5) (L1 := 181) (mc := 0) (ms := 0) d_Parts_wordKind_18 cV_Parts_60 (g_isName e_po e_d hln hS_13 (by decide) hae hel (by omega) (by omega)) e_po ⟨by decide, rfl⟩ ⟨by omega, by show 8 + (5 + 11) + 181 ≤ _; omega⟩ ⟨by omega, by omega⟩ (Nat.le_of_ble_eq_true rfl) (fun v_17 h_16 p_18 => ?_)
    obtain ⟨⟨y_14, rfl, hy_15⟩, rfl⟩ := p_18
    refine s_Parts_wordKind_21 (fun z_19 => ?_) (fun z_20 => ?_)
    · skip
      refine s_Parts_wordKind_27 ?_
      refine x_ldcS d_Parts_wordKind_30 st_66 (by decide) (fun q_21 b_22 hS_23 => ?_)
      refine x_callV (As := [.int (nI a), .int (nI e), .ref q_21]) (b := po) (rest := []) (F1 := 5) (L1 := 181) (mc := 0) (ms := 0) d_Parts_wordKind_32 cV_Parts_60 (g_isName e_po e_d hln hS_23 (by decide) hae hel (by omega) (by omega)) e_po ⟨by decide, rfl⟩ ⟨by omega, by show 8 + (5 + 11) + 181 ≤ _; omega⟩ ⟨by omega, by omega⟩ (Nat.le_of_ble_eq_true rfl) (fun v_27 h_26 p_28 => ?_)
      obtain ⟨⟨y_24, rfl, hy_25⟩, rfl⟩ := p_28
      refine s_Parts_wordKind_35 (fun z_29 => ?_) (fun z_30 => ?_)
      · skip
        refine s_Parts_wordKind_41 ?_
        refine x_ldcS d_Parts_wordKind_44 st_68 (by decide) (fun q_31 b_32 hS_33 => ?_)
        refine x_callV (As := [.int (nI a), .int (nI e), .ref q_31]) (b := po) (rest := []) (F1 := 5) (L1 := 181) (mc := 0) (ms := 0) d_Parts_wordKind_46 cV_Parts_60 (g_isName e_po e_d hln hS_33 (by decide) hae hel (by omega) (by omega)) e_po ⟨by decide, rfl⟩ ⟨by omega, by show 8 + (5 + 11) + 181 ≤ _; omega⟩ ⟨by omega, by omega⟩ (Nat.le_of_ble_eq_true rfl) (fun v_37 h_36 p_38 => ?_)
        obtain ⟨⟨y_34, rfl, hy_35⟩, rfl⟩ := p_38
        refine x_le (xw_le_s (xw_le_n (xw_le_s xw_le_e))) ?_
        refine s_Parts_wordKind_49 (fun z_39 => ?_) (fun z_40 => ?_)
        · skip
          refine s_Parts_wordKind_55 (kinds_a0 := some k1) (starts_a0 := some k2) (ends_a0 := some k3) (letters_a0 := some d) e_po (fun z_41 => ?_) (fun z_42 => ?_)
          · skip
            refine s_Parts_wordKind_78 ?_
            refine s_Parts_wordKind_79 ?_
            exact ⟨⟨2, rfl, by decide, by decide, fun z => absurd z (by decide)⟩, rfl⟩
          · skip
            refine s_Parts_wordKind_63 (kinds_a0 := some k1) (starts_a0 := some k2) (ends_a0 := some k3) e_po e_d (vp_in_nI (show e < 96 by have h9 : e < ln := Nat.lt_of_not_le (fun q => z_42 (nI_le q (by omega))); omega) (by decide)) (fun z_43 => ?_) (fun z_44 => ?_)
            · skip
              refine s_Parts_wordKind_78 ?_
              refine s_Parts_wordKind_79 ?_
              exact ⟨⟨2, rfl, by decide, by decide, fun z => absurd z (by decide)⟩, rfl⟩
            · skip
              refine s_Parts_wordKind_74 ?_
              refine s_Parts_wordKind_79 ?_
              exact ⟨⟨3, rfl, by decide, by decide, fun _ => ⟨Nat.lt_of_not_le (fun q => z_42 (nI_le q (by omega))), by rw [nI_clamp (by omega)] at z_44; exact z_44⟩⟩, rfl⟩
        · skip
          refine s_Parts_wordKind_52 ?_
          exact ⟨⟨8, rfl, by decide, by decide, fun z => absurd z (by decide)⟩, rfl⟩
      · skip
        refine s_Parts_wordKind_38 ?_
        exact ⟨⟨7, rfl, by decide, by decide, fun z => absurd z (by decide)⟩, rfl⟩
    · skip
      refine s_Parts_wordKind_24 ?_
      exact ⟨⟨6, rfl, by decide, by decide, fun z => absurd z (by decide)⟩, rfl⟩
  · skip
    refine s_Parts_wordKind_11 ?_
    exact ⟨⟨5, rfl, by decide, by decide, fun z => absurd z (by decide)⟩, rfl⟩
theorem s_Parts_readPart_54e {G : xw_G} {F L bc bs : Nat} {pr : Option Value → xw_A → Prop} {px : String → xw_A → Prop} {h : xw_A} {a0 : Nat} {x1 : Int32} {x2 : Int32} {y0 : Int32} {b2 : Nat} {n_b2 : Nat} {f_b2 : Nat → Int32} {kinds_a0 : Option Nat} {starts_a0 : Option Nat} {letters_a0 : Option Nat} {length_a0 : Int32} (e_b2 : h b2 = some (.inl (0, n_b2, .inl f_b2))) (i_54 : vp_in x1 n_b2) (e_a0 : h a0 = some (.inr (3, [va_rf kinds_a0, va_rf starts_a0, .ref b2, va_rf letters_a0, .int length_a0]))) (k : xw G m_Parts_readPart F L bc bs pr px 68 [some (.ref a0), some (.int x1), some (.int x2), none] [.int y0, .int x2, .ref a0, .int x1, va_rf kinds_a0] (xw_up h b2 (.inl (0, n_b2, .inl (upd f_b2 (x1).toNatClampNeg y0))))) : xw G m_Parts_readPart F L bc bs pr px 54 [some (.ref a0), some (.int x1), some (.int x2), none] [.int y0, .int x1, .ref b2] h := by
  refine x_iast d_Parts_readPart_54 e_b2 i_54 ?_
  refine x_aload_n d_Parts_readPart_55 rfl rfl ?_
  refine x_get d_Parts_readPart_56 f_Parts_9 ((xw_up_n _ _ (xw_ne e_a0 e_b2 (by simp))).trans e_a0) rfl ?_
  refine x_iload_n d_Parts_readPart_59 rfl rfl ?_
  refine x_aload_n d_Parts_readPart_60 rfl rfl ?_
  refine x_iload_n d_Parts_readPart_61 rfl rfl ?_
  refine x_aload_n d_Parts_readPart_62 rfl rfl ?_
  refine x_get d_Parts_readPart_63 f_Parts_18 ((xw_up_n _ _ (xw_ne e_a0 e_b2 (by simp))).trans e_a0) rfl ?_
  refine x_iload_n d_Parts_readPart_66 rfl rfl ?_
  refine x_iald d_Parts_readPart_67 (xw_up_s _ _ _) i_54 ?_
  rw [pk_us]
  exact k
theorem s_Parts_readPart_96e {G : xw_G} {F L bc bs : Nat} {pr : Option Value → xw_A → Prop} {px : String → xw_A → Prop} {h : xw_A} {a0 : Nat} {x1 : Int32} {x2 : Int32} {y0 : Int32} {b2 : Nat} {n_b2 : Nat} {f_b2 : Nat → Int32} {kinds_a0 : Option Nat} {starts_a0 : Option Nat} {letters_a0 : Option Nat} {length_a0 : Int32} (e_b2 : h b2 = some (.inl (0, n_b2, .inl f_b2))) (i_96 : vp_in x1 n_b2) (e_a0 : h a0 = some (.inr (3, [va_rf kinds_a0, va_rf starts_a0, .ref b2, va_rf letters_a0, .int length_a0]))) (kt : y0 ≤ x2 → xw G m_Parts_readPart F L bc bs pr px 116 [none, none, none, none] [.int x1, va_rf kinds_a0] (xw_up h b2 (.inl (0, n_b2, .inl (upd f_b2 (x1).toNatClampNeg y0))))) (kf : ¬ y0 ≤ x2 → xw G m_Parts_readPart F L bc bs pr px 112 [none, none, none, none] [.int x1, va_rf kinds_a0] (xw_up h b2 (.inl (0, n_b2, .inl (upd f_b2 (x1).toNatClampNeg y0))))) : xw G m_Parts_readPart F L bc bs pr px 96 [some (.ref a0), some (.int x1), some (.int x2), none] [.int y0, .int x1, .ref b2] h := by
  refine x_iast d_Parts_readPart_96 e_b2 i_96 ?_
  refine x_aload_n d_Parts_readPart_97 rfl rfl ?_
  refine x_get d_Parts_readPart_98 f_Parts_9 ((xw_up_n _ _ (xw_ne e_a0 e_b2 (by simp))).trans e_a0) rfl ?_
  refine x_iload_n d_Parts_readPart_101 rfl rfl ?_
  refine x_aload_n d_Parts_readPart_102 rfl rfl ?_
  refine x_get d_Parts_readPart_103 f_Parts_18 ((xw_up_n _ _ (xw_ne e_a0 e_b2 (by simp))).trans e_a0) rfl ?_
  refine x_iload_n d_Parts_readPart_106 rfl rfl ?_
  refine x_iald d_Parts_readPart_107 (xw_up_s _ _ _) i_96 ?_
  rw [pk_us]
  refine x_iload_n d_Parts_readPart_108 rfl rfl ?_
  refine x_icmp_le (tgt := 116) d_Parts_readPart_109 (by decide) (fun hc => ?_) (fun hc => ?_)
  · exact x_le (lv' := [none, none, none, none]) (xw_le_n (xw_le_n (xw_le_n (xw_le_n xw_le_e)))) (kt hc)
  · exact x_le (lv' := [none, none, none, none]) (xw_le_n (xw_le_n (xw_le_n (xw_le_n xw_le_e)))) (kf hc)
set_option maxHeartbeats 2000000 in
theorem g_readPart {G : xw_G} {F L : Nat} {h : xw_A} {po k1 k2 k3 d ln : Nat} {fd : Nat → Int32} (e_po : h po = some (.inr (3, [.ref k1, .ref k2, .ref k3, .ref d, .int (nI ln)]))) (e_d : h d = some (.inl (1, 96, .inl fd))) (hln : ln ≤ 96) {fk fs fe : Nat → Int32} (e_k1 : h k1 = some (.inl (0, 97, .inl fk))) (e_k2 : h k2 = some (.inl (0, 97, .inl fs))) (e_k3 : h k3 = some (.inl (0, 97, .inl fe))) {i a : Nat} (hi : i < 97) (ha : fs i = nI a) (hal : a ≤ ln) (nk : k1 ≠ k2 ∧ k1 ≠ k3 ∧ k2 ≠ k3) (hF : 7 ≤ F) (hL : 227 ≤ L) :
    xw_Met G m_Parts_readPart F L 0 0 [.ref po, .int (nI i)] h (fun v h' => v = none ∧ ∃ (kd : Int32) (b : Nat), h' k1 = some (.inl (0, 97, .inl (upd fk i kd))) ∧ h' k3 = some (.inl (0, 97, .inl (upd fe i (nI b)))) ∧ a ≤ b ∧ b ≤ ln ∧ ((kd = 0 ∨ kd = 1) ∨ a < b) ∧ (kd = 3 → b < ln ∧ fd b = 58) ∧ (a < ln → fd a = 58 → kd = 16) ∧ FrO [k1, k3] h h') (fun _ _ => False) := by
  refine xw_Met.of rfl (by decide) (Nat.le_of_ble_eq_true rfl) ?_
  have r0 : FrO [k1, k3] h h := FrO.rf
  refine s_Parts_readPart_0 (kinds_a0 := some k1) (ends_a0 := some k3) (letters_a0 := some d) e_po e_k2 (vp_in_nI (by omega) (by decide)) (fun z_1 => ?_) (fun z_2 => ?_)
  · skip
    rw [nI_clamp (show i < 2 ^ 31 by omega), ha] at z_1 ⊢
    have hal2 : a < ln := (nI_ltI (by omega) (by omega)).mp z_1
    refine s_Parts_readPart_32 (kinds_a0 := some k1) (starts_a0 := some k2) (ends_a0 := some k3) e_po e_d (vp_in_nI (by omega) (by decide)) ?_
    rw [nI_clamp (show a < 2 ^ 31 by omega)]
    refine x_callSN (As := [.int (fd a)]) (rest := []) (F1 := 1) (L1 := 20) (mc := 0) (ms := 0) d_Parts_readPart_38 cN_Parts_37 (g_isWord (by omega) (by omega)) ⟨by omega, by show 8 + (1 + 11) + 20 ≤ _; omega⟩ ⟨by omega, by omega⟩ (Nat.le_of_ble_eq_true rfl) (fun v_4 h_3 p_5 => ?_)
    obtain ⟨rfl, rfl⟩ := p_5
    refine s_Parts_readPart_41 (fun z_6 => ?_) (fun z_7 => ?_)
    · skip
      refine s_Parts_readPart_75 (kinds_a0 := some k1) (starts_a0 := some k2) (ends_a0 := some k3) e_po e_d (vp_in_nI (by omega) (by decide)) (fun z_8 => ?_) (fun z_9 => ?_)
      · skip
        refine x_ldcS d_Parts_readPart_121 st_51 (by decide) (fun q b hS => ?_)
        refine x_aload_n d_Parts_readPart_123 rfl rfl ?_
        refine x_get d_Parts_readPart_124 f_Parts_21 e_po rfl ?_
        refine x_iload_n d_Parts_readPart_127 rfl rfl ?_
        refine x_cald d_Parts_readPart_128 e_d (vp_in_nI (show a < 96 by omega) (by decide)) ?_
        rw [nI_clamp (show a < 2 ^ 31 by omega)]
        refine x_callVS (As := [.int (fd a)]) (b := q) (rest := []) (F1 := 4) (L1 := 170) (mc := 0) (ms := 0) d_Parts_readPart_129 cV_Parts_53 (j_indexOf hS (by decide) (by decide) (by omega) (by omega)) hS rfl ⟨by omega, by show 8 + (2 + 11) + 170 ≤ _; omega⟩ ⟨by omega, by omega⟩ (Nat.le_of_ble_eq_true rfl) (fun v h1 pp => ?_)
        obtain ⟨⟨y, rfl, hy1, hy2⟩, rfl⟩ := pp
        have hyj : y = -1 ∨ ∃ j, j < 8 ∧ y = nI j := hy1.elim Or.inl (fun w => (ixC_in (fun j => [40, 41, 45, 94, 44, 43, 42, 58].getD j 0) (fd a).toInt8.toInt32 8 0).elim (fun u => Or.inl (w.2.trans u)) (fun ⟨j, _, u1, u2⟩ => Or.inr ⟨j, by omega, w.2.trans u2⟩))
        have hy58 : fd a = 58 → y = 7 := fun q => by rw [hy2 (by rw [q]; decide), q]; decide
        refine s_Parts_readPart_132 (kinds_a0 := some k1) (starts_a0 := some k2) (ends_a0 := some k3) (letters_a0 := some d) e_po (fun z_10 => ?_) (fun z_11 => ?_)
        · skip
          refine s_Parts_readPart_149 ?_
          refine s_Parts_readPart_150 (kinds_a0 := some k1) (starts_a0 := some k2) (letters_a0 := some d) e_k1 (vp_in_nI (by omega) (by decide)) e_po e_k3 (vp_in_nI (by omega) (by decide)) (Ne.symm nk.2.1) ?_
          refine x_u2 (fun h_12 e_13 f_14 h_15 e_16 f_17 => ?_)
          have e_18 := (f_14 po (xw_neC e_po e_k1 (by simp))).trans e_po
          have e_19 := (f_14 d (xw_neC e_d e_k1 (by simp))).trans e_d
          have e_20 := (f_14 k2 (Ne.symm nk.1)).trans e_k2
          have e_21 := (f_14 k3 (Ne.symm nk.2.1)).trans e_k3
          have r_22 := r0.up (by simp) f_14
          have e_23 := (f_17 po (xw_neC e_18 e_21 (by simp))).trans e_18
          have e_24 := (f_17 d (xw_neC e_19 e_21 (by simp))).trans e_19
          have e_25 := (f_17 k1 nk.2.1).trans e_13
          have e_26 := (f_17 k2 nk.2.2).trans e_20
          have r_27 := r_22.up (by simp) f_17
          refine s_Parts_readPart_160 ?_
          rw [nI_clamp (show i < 2 ^ 31 by omega)] at e_25 e_16
          rw [nI_1] at e_16
          exact ⟨rfl, 1, (a + 1), e_25, e_16, Nat.le_succ _, by omega, Or.inl (Or.inr rfl), fun q => absurd q (by decide), fun _ q => absurd z_10 (by rw [hy58 q]; decide), r_27⟩
        · skip
          refine s_Parts_readPart_142 ?_
          obtain ⟨j, hj, rfl⟩ : ∃ j, j < 8 ∧ y = nI j := hyj.resolve_left (fun q => z_11 (by rw [q]; decide))
          rw [show (9 : Int32) = nI 9 from rfl, nI_add]
          refine s_Parts_readPart_150 (kinds_a0 := some k1) (starts_a0 := some k2) (letters_a0 := some d) e_k1 (vp_in_nI (by omega) (by decide)) e_po e_k3 (vp_in_nI (by omega) (by decide)) (Ne.symm nk.2.1) ?_
          refine x_u2 (fun h_28 e_29 f_30 h_31 e_32 f_33 => ?_)
          have e_34 := (f_30 po (xw_neC e_po e_k1 (by simp))).trans e_po
          have e_35 := (f_30 d (xw_neC e_d e_k1 (by simp))).trans e_d
          have e_36 := (f_30 k2 (Ne.symm nk.1)).trans e_k2
          have e_37 := (f_30 k3 (Ne.symm nk.2.1)).trans e_k3
          have r_38 := r0.up (by simp) f_30
          have e_39 := (f_33 po (xw_neC e_34 e_37 (by simp))).trans e_34
          have e_40 := (f_33 d (xw_neC e_35 e_37 (by simp))).trans e_35
          have e_41 := (f_33 k1 nk.2.1).trans e_29
          have e_42 := (f_33 k2 nk.2.2).trans e_36
          have r_43 := r_38.up (by simp) f_33
          refine s_Parts_readPart_160 ?_
          rw [nI_clamp (show i < 2 ^ 31 by omega)] at e_41 e_32
          rw [nI_1] at e_32
          exact ⟨rfl, (nI (9 + j)), (a + 1), e_41, e_32, Nat.le_succ _, by omega, Or.inr (Nat.lt_succ_self _), fun q => absurd ((nI_eq (b := 3) (by omega) (by decide)).mp q) (by omega), fun _ q => by have h9 := (nI_eq (b := 7) (by omega) (by decide)).mp (hy58 q); subst h9; rfl, r_43⟩
      · skip
        refine s_Parts_readPart_86 (kinds_a0 := some k1) (starts_a0 := some k2) (ends_a0 := some k3) (letters_a0 := some d) e_po ?_
        have h34 : fd a = 34 := by rw [nI_clamp (show a < 2 ^ 31 by omega)] at z_9; exact z_9
        refine x_callV (As := [.int (nI a)]) (b := po) (rest := [.int (nI i), .ref k3]) (F1 := 1) (L1 := 20) (mc := 0) (ms := 0) d_Parts_readPart_93 cV_Parts_48 (g_quote e_po e_d hln hal2 (by omega) (by omega)) e_po ⟨by decide, rfl⟩ ⟨by omega, by show 8 + (3 + 11) + 20 ≤ _; omega⟩ ⟨by omega, by omega⟩ (Nat.le_of_ble_eq_true rfl) (fun v_48 h_47 p_49 => ?_)
        obtain ⟨⟨b_44, rfl, hb_45, hb_46⟩, rfl⟩ := p_49
        refine s_Parts_readPart_96e (kinds_a0 := some k1) (starts_a0 := some k2) (letters_a0 := some d) e_k3 (vp_in_nI (by omega) (by decide)) e_po (fun z_50 => ?_) (fun z_51 => ?_)
        · skip
          refine x_u1 (fun h_52 e_53 f_54 => ?_)
          have e_55 := (f_54 po (xw_neC e_po e_k3 (by simp))).trans e_po
          have e_56 := (f_54 d (xw_neC e_d e_k3 (by simp))).trans e_d
          have e_57 := (f_54 k1 nk.2.1).trans e_k1
          have e_58 := (f_54 k2 nk.2.2).trans e_k2
          have r_59 := r0.up (by simp) f_54
          refine s_Parts_readPart_116 ?_
          refine s_Parts_readPart_117 e_57 (vp_in_nI (by omega) (by decide)) ?_
          refine x_u1 (fun h_60 e_61 f_62 => ?_)
          have e_63 := (f_62 po (xw_neC e_55 e_57 (by simp))).trans e_55
          have e_64 := (f_62 d (xw_neC e_56 e_57 (by simp))).trans e_56
          have e_65 := (f_62 k2 (Ne.symm nk.1)).trans e_58
          have e_66 := (f_62 k3 (Ne.symm nk.2.1)).trans e_53
          have r_67 := r_59.up (by simp) f_62
          refine s_Parts_readPart_160 ?_
          rw [nI_clamp (show i < 2 ^ 31 by omega)] at e_61 e_66
          exact ⟨rfl, 1, b_44, e_61, e_66, by omega, hb_46, Or.inl (Or.inr rfl), fun q => absurd q (by decide), fun _ q => absurd (h34.symm.trans q) (by decide), r_67⟩
        · skip
          refine x_u1 (fun h_68 e_69 f_70 => ?_)
          have e_71 := (f_70 po (xw_neC e_po e_k3 (by simp))).trans e_po
          have e_72 := (f_70 d (xw_neC e_d e_k3 (by simp))).trans e_d
          have e_73 := (f_70 k1 nk.2.1).trans e_k1
          have e_74 := (f_70 k2 nk.2.2).trans e_k2
          have r_75 := r0.up (by simp) f_70
          refine s_Parts_readPart_112 ?_
          refine s_Parts_readPart_117 e_73 (vp_in_nI (by omega) (by decide)) ?_
          refine x_u1 (fun h_76 e_77 f_78 => ?_)
          have e_79 := (f_78 po (xw_neC e_71 e_73 (by simp))).trans e_71
          have e_80 := (f_78 d (xw_neC e_72 e_73 (by simp))).trans e_72
          have e_81 := (f_78 k2 (Ne.symm nk.1)).trans e_74
          have e_82 := (f_78 k3 (Ne.symm nk.2.1)).trans e_69
          have r_83 := r_75.up (by simp) f_78
          refine s_Parts_readPart_160 ?_
          rw [nI_clamp (show i < 2 ^ 31 by omega)] at e_77 e_82
          exact ⟨rfl, 4, b_44, e_77, e_82, by omega, hb_46, Or.inr (Nat.lt_of_not_le (fun q => z_51 (nI_le q (by omega)))), fun q => absurd q (by decide), fun _ q => absurd (h34.symm.trans q) (by decide), r_83⟩
    · skip
      refine s_Parts_readPart_44 (kinds_a0 := some k1) (starts_a0 := some k2) (ends_a0 := some k3) (letters_a0 := some d) e_po ?_
      have hw9 : isW (fd a) = true := b01_t z_7
      refine x_callV (As := [.int (nI a)]) (b := po) (rest := [.int (nI i), .ref k3]) (F1 := 2) (L1 := 40) (mc := 0) (ms := 0) d_Parts_readPart_51 cV_Parts_41 (g_wordEnd e_po e_d hln hal2 hw9 (by omega) (by omega)) e_po ⟨by decide, rfl⟩ ⟨by omega, by show 8 + (3 + 11) + 40 ≤ _; omega⟩ ⟨by omega, by omega⟩ (Nat.le_of_ble_eq_true rfl) (fun v_88 h_87 p_89 => ?_)
      obtain ⟨⟨b_84, rfl, hb_85, hb_86⟩, rfl⟩ := p_89
      refine s_Parts_readPart_54e (kinds_a0 := some k1) (starts_a0 := some k2) (letters_a0 := some d) e_k3 (vp_in_nI (by omega) (by decide)) e_po ?_
      refine x_u1 (fun h_90 e_91 f_92 => ?_)
      have e_93 := (f_92 po (xw_neC e_po e_k3 (by simp))).trans e_po
      have e_94 := (f_92 d (xw_neC e_d e_k3 (by simp))).trans e_d
      have e_95 := (f_92 k1 nk.2.1).trans e_k1
      have e_96 := (f_92 k2 nk.2.2).trans e_k2
      have r_97 := r0.up (by simp) f_92
      refine x_callV (As := [.int (nI a), .int (nI b_84)]) (b := po) (rest := [.int (nI i), .ref k1]) (F1 := 6) (L1 := 205) (mc := 0) (ms := 0) d_Parts_readPart_68 cV_Parts_44 (g_wordKind e_93 e_94 hln (show a ≤ b_84 by omega) hb_86 (by omega) (by omega)) e_93 ⟨by decide, rfl⟩ ⟨by omega, by show 8 + (3 + 11) + 205 ≤ _; omega⟩ ⟨by omega, by omega⟩ (Nat.le_of_ble_eq_true rfl) (fun v_103 h_102 p_104 => ?_)
      obtain ⟨⟨y_98, rfl, hy_99, hy_100, hy_101⟩, rfl⟩ := p_104
      refine x_le (xw_le_n (xw_le_n (xw_le_n (xw_le_n xw_le_e)))) ?_
      refine s_Parts_readPart_71 e_95 (vp_in_nI (by omega) (by decide)) ?_
      refine x_u1 (fun h_105 e_106 f_107 => ?_)
      have e_108 := (f_107 po (xw_neC e_93 e_95 (by simp))).trans e_93
      have e_109 := (f_107 d (xw_neC e_94 e_95 (by simp))).trans e_94
      have e_110 := (f_107 k2 (Ne.symm nk.1)).trans e_96
      have e_111 := (f_107 k3 (Ne.symm nk.2.1)).trans e_91
      have r_112 := r_97.up (by simp) f_107
      refine s_Parts_readPart_160 ?_
      rw [nI_clamp (show i < 2 ^ 31 by omega)] at e_106 e_111
      exact ⟨rfl, y_98, b_84, e_106, e_111, by omega, hb_86, Or.inr hb_85, hy_101, fun _ q => absurd hw9 (by rw [q]; decide), r_112⟩
  · skip
    rw [nI_clamp (show i < 2 ^ 31 by omega), ha] at z_2 ⊢
    refine s_Parts_readPart_15 (starts_a0 := some k2) (letters_a0 := some d) e_po e_k1 (vp_in_nI (by omega) (by decide)) e_k3 (vp_in_nI (by omega) (by decide)) (Ne.symm nk.2.1) ?_
    refine x_u2 (fun h_113 e_114 f_115 h_116 e_117 f_118 => ?_)
    have e_119 := (f_115 po (xw_neC e_po e_k1 (by simp))).trans e_po
    have e_120 := (f_115 d (xw_neC e_d e_k1 (by simp))).trans e_d
    have e_121 := (f_115 k2 (Ne.symm nk.1)).trans e_k2
    have e_122 := (f_115 k3 (Ne.symm nk.2.1)).trans e_k3
    have r_123 := r0.up (by simp) f_115
    have e_124 := (f_118 po (xw_neC e_119 e_122 (by simp))).trans e_119
    have e_125 := (f_118 d (xw_neC e_120 e_122 (by simp))).trans e_120
    have e_126 := (f_118 k1 nk.2.1).trans e_114
    have e_127 := (f_118 k2 nk.2.2).trans e_121
    have r_128 := r_123.up (by simp) f_118
    refine s_Parts_readPart_160 ?_
    rw [nI_clamp (show i < 2 ^ 31 by omega)] at e_126 e_117
    exact ⟨rfl, 0, a, e_126, e_117, Nat.le_refl _, hal, Or.inl (Or.inl rfl), fun q => absurd q (by decide), fun q => absurd (nI_lt q (by omega)) z_2, r_128⟩
set_option maxHeartbeats 2000000 in
theorem lp_split {G : xw_G} {F L bc bs : Nat} {pr : Option Value → xw_A → Prop} {px : String → xw_A → Prop} {h0 : xw_A} {po k1 k2 k3 d ln : Nat} {fd : Nat → Int32} (hln : ln ≤ 96) (nk : k1 ≠ k2 ∧ k1 ≠ k3 ∧ k2 ≠ k3) (hF : 8 ≤ F) (hL : 250 ≤ L) (kk : ∀ (h : xw_A) (c : Nat) (fk fs fe : Nat → Int32), PkC po k1 k2 k3 d ln c fk fs fe fd h → FrO [po, k1, k2, k3] h0 h → pr none h) :
    ∀ (dd i : Nat) (h : xw_A) (x : Nat) (fk : Nat → Int32) (fs : Nat → Int32) (fe : Nat → Int32), i + dd = 97 → h po = some (.inr (3, [.ref k1, .ref k2, .ref k3, .ref d, .int (nI ln)])) → h d = some (.inl (1, 96, .inl fd)) → h k1 = some (.inl (0, 97, .inl fk)) → h k2 = some (.inl (0, 97, .inl fs)) → h k3 = some (.inl (0, 97, .inl fe)) → SpI i x ln fk fs fe fd → FrO [po, k1, k2, k3] h0 h → xw G m_Parts_split F L bc bs pr px 15 [some (.ref po), none, none, some (.int (nI x)), some (.int (nI i))] [] h := by
  intro dd
  induction dd with
  | zero =>
    intro i h x fk fs fe hi e_po e_d e_k1 e_k2 e_k3 SP r0
    obtain rfl : i = 97 := by omega
    refine s_Parts_split_15 (starts_a0 := some k2) (ends_a0 := some k3) (letters_a0 := some d) e_po e_k1 (fun z_1 => ?_) (fun z => absurd z (by decide))
    refine s_Parts_split_81 ?_
    exact absurd SP.2.2.2.2 (by have h9 := SP.2.2.2.1; omega)
  | succ dd ih =>
    intro i h x fk fs fe hi e_po e_d e_k1 e_k2 e_k3 SP r0
    refine s_Parts_split_15 (starts_a0 := some k2) (ends_a0 := some k3) (letters_a0 := some d) e_po e_k1 (fun z => absurd z (nI_ge (b := 97) (show i < 97 by omega) (by decide))) (fun z_1 => ?_)
    refine s_Parts_split_25 ?_
    refine x_callV (As := [.int (nI x)]) (b := po) (rest := []) (F1 := 1) (L1 := 20) (mc := 0) (ms := 0) d_Parts_split_27 cV_Parts_29 (g_blanks e_po e_d hln SP.2.2.2.2 (by omega) (by omega)) e_po ⟨by decide, rfl⟩ ⟨by omega, by show 8 + (3 + 11) + 20 ≤ _; omega⟩ ⟨by omega, by omega⟩ (Nat.le_of_ble_eq_true rfl) (fun v_7 h_6 p_8 => ?_)
    obtain ⟨⟨y_2, rfl, hy_3, hy_4, hy_5⟩, rfl⟩ := p_8
    refine x_le (xw_le_s (xw_le_n (xw_le_n (xw_le_n (xw_le_s xw_le_e))))) ?_
    refine s_Parts_split_30 (kinds_a0 := some k1) (ends_a0 := some k3) (letters_a0 := some d) e_po e_k2 (vp_in_nI (by omega) (by decide)) ?_
    refine x_u1 (fun h_9 e_10 f_11 => ?_)
    have e_12 := (f_11 po (xw_neC e_po e_k2 (by simp))).trans e_po
    have e_13 := (f_11 d (xw_neC e_d e_k2 (by simp))).trans e_d
    have e_14 := (f_11 k1 nk.1).trans e_k1
    have e_15 := (f_11 k3 (Ne.symm nk.2.2)).trans e_k3
    have r_16 := r0.up (by simp) f_11
    rw [nI_clamp (show i < 2 ^ 31 by omega)] at e_10
    refine x_callV (As := [.int (nI i)]) (b := po) (rest := []) (F1 := 7) (L1 := 227) (mc := 0) (ms := 0) d_Parts_split_42 cV_Parts_33 (g_readPart e_12 e_13 hln e_14 e_10 e_15 (show i < 97 by omega) pk_us hy_4 nk (by omega) (by omega)) e_12 ⟨by decide, rfl⟩ ⟨by omega, by show 8 + (4 + 11) + 227 ≤ _; omega⟩ ⟨by omega, by omega⟩ (Nat.le_of_ble_eq_true rfl) (fun v_28 h_27 p_29 => ?_)
    obtain ⟨rfl, kd_17, b_18, e_19, e_20, a_21, a_22, a_23, a_24, a_25, fr_26⟩ := p_29
    have e_30 := fr_26 po _ (by simp only [List.mem_cons, List.not_mem_nil, or_false, not_or]; exact ⟨xw_neC e_po e_k1 (by simp), xw_neC e_po e_k3 (by simp)⟩) e_12
    have e_31 := fr_26 d _ (by simp only [List.mem_cons, List.not_mem_nil, or_false, not_or]; exact ⟨xw_neC e_d e_k1 (by simp), xw_neC e_d e_k3 (by simp)⟩) e_13
    have e_32 := fr_26 k2 _ (by simp only [List.mem_cons, List.not_mem_nil, or_false, not_or]; exact ⟨Ne.symm nk.1, nk.2.2⟩) e_10
    have r_33 := r_16.trans (fr_26.mono (by simp))
    refine x_le (xw_le_s (xw_le_n (xw_le_n (xw_le_n (xw_le_s xw_le_e))))) ?_
    refine s_Parts_split_45 (starts_a0 := some k2) (letters_a0 := some d) e_30 e_20 (vp_in_nI (by omega) (by decide)) e_19 (vp_in_nI (by omega) (by decide)) (fun z_34 => ?_) (fun z_35 => ?_)
    · skip
      refine s_Parts_split_74 ?_
      rw [nI_clamp (show i < 2 ^ 31 by omega), pk_us] at z_34
      exact kk _ _ _ _ _ ⟨e_30, e_31, e_19, e_32, e_20, hln, SP.fin hln hy_3 hy_5 (Or.inl z_34) a_21 a_22 a_25⟩ r_33
    · skip
      refine s_Parts_split_63 (starts_a0 := some k2) (ends_a0 := some k3) (letters_a0 := some d) e_30 e_19 (vp_in_nI (by omega) (by decide)) (fun z_36 => ?_) (fun z_37 => ?_)
      · skip
        refine s_Parts_split_75 ?_
        rw [nI_clamp (show i < 2 ^ 31 by omega), pk_us] at z_35
        rw [nI_clamp (show i < 2 ^ 31 by omega), pk_us] at z_36
        rw [nI_1, nI_clamp (show i < 2 ^ 31 by omega), pk_us]
        exact ih (i + 1) _ b_18 _ _ _ (by omega) e_30 e_31 e_19 e_32 e_20 (SP.next hy_3 hy_5 z_35 z_36 (a_23.resolve_left (fun q => q.elim z_35 z_36)) a_22 a_24 a_25) r_33
      · skip
        refine s_Parts_split_74 ?_
        rw [nI_clamp (show i < 2 ^ 31 by omega), pk_us] at z_37
        exact kk _ _ _ _ _ ⟨e_30, e_31, e_19, e_32, e_20, hln, SP.fin hln hy_3 hy_5 (Or.inr z_37) a_21 a_22 a_25⟩ r_33
set_option maxHeartbeats 400000 in
theorem g_split {G : xw_G} {F L : Nat} {h : xw_A} {po k1 k2 k3 d ln : Nat} {dq : Option Nat} {x0 : Int32} {fk fs fe fd : Nat → Int32} (e_po : h po = some (.inr (3, [.ref k1, .ref k2, .ref k3, va_rf dq, .int x0]))) (e_d : h d = some (.inl (1, 96, .inl fd))) (hln : ln ≤ 96) (e_k1 : h k1 = some (.inl (0, 97, .inl fk))) (e_k2 : h k2 = some (.inl (0, 97, .inl fs))) (e_k3 : h k3 = some (.inl (0, 97, .inl fe))) (nk : k1 ≠ k2 ∧ k1 ≠ k3 ∧ k2 ≠ k3) (hF : 8 ≤ F) (hL : 250 ≤ L) :
    xw_Met G m_Parts_split F L 0 0 [.ref po, .ref d, .int (nI ln)] h (fun v h' => v = none ∧ (∃ (c : Nat) (fk fs fe : Nat → Int32), PkC po k1 k2 k3 d ln c fk fs fe fd h') ∧ FrO [po, k1, k2, k3] h h') (fun _ _ => False) := by
  refine xw_Met.of rfl (by decide) (Nat.le_of_ble_eq_true rfl) ?_
  refine s_Parts_split_0 (kinds_a0 := some k1) (starts_a0 := some k2) (ends_a0 := some k3) (letters_a0 := dq) e_po ?_
  rw [xw_up_up]
  refine x_u1 (fun h1 e1 f1 => ?_)
  exact lp_split (h0 := h) hln nk (by omega) (by omega) (fun h2 c fk fs fe P r => ⟨rfl, ⟨c, fk, fs, fe, P⟩, r⟩) 97 0 _ 0 _ _ _ rfl e1 ((f1 _ (xw_neC e_d e_po (by simp))).trans e_d) ((f1 _ (xw_neC e_k1 e_po (by simp))).trans e_k1) ((f1 _ (xw_neC e_k2 e_po (by simp))).trans e_k2) ((f1 _ (xw_neC e_k3 e_po (by simp))).trans e_k3) ⟨fun j hj => absurd hj (Nat.not_lt_zero _), fun j hj => absurd hj (Nat.not_lt_zero _), fun j hj => by omega, Nat.le_refl _, Nat.zero_le _⟩ (FrO.rf.up (by simp) f1)
theorem nb01 {b : Int32} (hb : b = 0 ∨ b = 1) : narrow .boolean (.int b) = .int b := by rcases hb with rfl | rfl <;> rfl
theorem fb01 {b : Int32} (hb : b = 0 ∨ b = 1) : narrow .boolean (.int b) = .int b ∧ fits .boolean (.int b) = true := by rcases hb with rfl | rfl <;> exact ⟨rfl, rfl⟩
theorem tk01 {b x : Int32} {t t' : Nat} {y : Int32} (h : (b = 0 ∧ t' = t) ∨ (b = 1 ∧ t' = t + 1 ∧ y = x)) : b = 0 ∨ b = 1 := h.elim (fun z => Or.inl z.1) (fun z => Or.inr z.1)
set_option maxHeartbeats 400000 in
theorem g_kind {G : xw_G} {F L : Nat} {h : xw_A} {qo tk tl tz ph nd po k1 k2 k3 d ln c : Nat} {fk fs fe fd : Nat → Int32} {fp fn : Nat → Option Nat} {p nn n t : Nat} {wp : Int32} {f g : Nat → Int32} (K : QuC qo tk tl tz ph nd po k1 k2 k3 d ln c fk fs fe fd fp fn p nn n t wp f g h) (hF : 1 ≤ F) (hL : 20 ≤ L) :
    xw_Met G m_Question_kind F L 0 0 [.ref qo] h (fun v h' => v = some (.int (fk t)) ∧ h = h') (fun _ _ => False) := by
  refine xw_Met.of rfl (by decide) (Nat.le_of_ble_eq_true rfl) ?_
  obtain ⟨e_qo, T, e_ph, e_nd, P, hp, hnn, ht, Fp, Nd⟩ := id K
  obtain ⟨e_po, e_d, e_k1, e_k2, e_k3, hln, PF⟩ := id P
  have e_tk := T.1
  have hc := PF.1
  refine s_Question_kind_0 (tokens_a0 := some tk) (phrases_a0 := some ph) (nodes_a0 := some nd) (letters_a0 := some d) (starts_parts_a0 := some k2) (ends_parts_a0 := some k3) (letters_parts_a0 := some d) e_qo e_po e_k1 (vp_in_nI (by omega) (by omega)) ?_
  exact ⟨congrArg (fun z => some (Value.int z)) (by rw [nI_clamp (by omega)]), rfl⟩
set_option maxHeartbeats 400000 in
theorem g_takes {G : xw_G} {F L : Nat} {h : xw_A} {x : Int32} {qo tk tl tz ph nd po k1 k2 k3 d ln c : Nat} {fk fs fe fd : Nat → Int32} {fp fn : Nat → Option Nat} {p nn n t : Nat} {wp : Int32} {f g : Nat → Int32} (K : QuC qo tk tl tz ph nd po k1 k2 k3 d ln c fk fs fe fd fp fn p nn n t wp f g h) (hx0 : ¬ x = 0) (hx1 : ¬ x = 1) (hF : 2 ≤ F) (hL : 40 ≤ L) :
    xw_Met G m_Question_takes F L 0 0 [.ref qo, .int x] h (fun v h' => ∃ (b : Int32) (t' : Nat), v = some (.int b) ∧ ((b = 0 ∧ t' = t) ∨ (b = 1 ∧ t' = t + 1 ∧ fk t = x)) ∧ QuC qo tk tl tz ph nd po k1 k2 k3 d ln c fk fs fe fd fp fn p nn n t' wp f g h' ∧ FrO [qo] h h') (fun _ _ => False) := by
  refine xw_Met.of rfl (by decide) (Nat.le_of_ble_eq_true rfl) ?_
  obtain ⟨e_qo, T, e_ph, e_nd, P, hp, hnn, ht, Fp, Nd⟩ := id K
  obtain ⟨e_po, e_d, e_k1, e_k2, e_k3, hln, PF⟩ := id P
  have e_tk := T.1
  have hc := PF.1
  have r0 : FrO [qo] h h := FrO.rf
  refine s_Question_takes_0 ?_
  refine x_callV (As := []) (b := qo) (rest := []) (F1 := 1) (L1 := 20) (mc := 0) (ms := 0) d_Question_takes_1 cV_Question_69 (g_kind K (by omega) (by omega)) e_qo ⟨by decide, rfl⟩ ⟨by omega, by show 8 + (1 + 11) + 20 ≤ _; omega⟩ ⟨by omega, by omega⟩ (Nat.le_of_ble_eq_true rfl) (fun v_2 h_1 p_3 => ?_)
  obtain ⟨rfl, rfl⟩ := p_3
  refine s_Question_takes_4 (fun z_4 => ?_) (fun z_5 => ?_)
  · skip
    refine s_Question_takes_10 (tokens_a0 := some tk) (phrases_a0 := some ph) (nodes_a0 := some nd) (parts_a0 := some po) (letters_a0 := some d) e_qo ?_
    obtain ⟨h_6, z_9⟩ : ∃ z, z = xw_up h qo (.inr (5, [va_rf (some tk), va_rf (some ph), va_rf (some nd), .int (nI p), .int (nI nn), .int wp, va_rf (some po), va_rf (some d), .int ((nI t) + 1)])) := ⟨_, rfl⟩
    rw [← z_9]
    have e_7 : h_6 qo = some (.inr (5, [va_rf (some tk), va_rf (some ph), va_rf (some nd), .int (nI p), .int (nI nn), .int wp, va_rf (some po), va_rf (some d), .int ((nI t) + 1)])) := by rw [z_9]; exact xw_up_s _ _ _
    have f_8 : ∀ q, q ≠ qo → h_6 q = h q := fun q hq => by rw [z_9]; exact xw_up_n _ _ hq
    clear z_9
    have e_10 := (f_8 tk (xw_neC e_tk e_qo (by simp))).trans e_tk
    have e_11 := (f_8 ph (xw_neC e_ph e_qo (by simp))).trans e_ph
    have e_12 := (f_8 nd (xw_neC e_nd e_qo (by simp))).trans e_nd
    have e_13 := (f_8 po (xw_neC e_po e_qo (by simp))).trans e_po
    have e_14 := (f_8 d (xw_neC e_d e_qo (by simp))).trans e_d
    have e_15 := (f_8 k1 (xw_neC e_k1 e_qo (by simp))).trans e_k1
    have e_16 := (f_8 k2 (xw_neC e_k2 e_qo (by simp))).trans e_k2
    have e_17 := (f_8 k3 (xw_neC e_k3 e_qo (by simp))).trans e_k3
    have r_18 := r0.up (by simp) f_8
    rw [nI_1] at e_7
    exact ⟨1, t + 1, rfl, Or.inr ⟨rfl, rfl, z_4⟩, K.q r_18 e_7 (PF.next ht (by rw [z_4]; exact hx0) (by rw [z_4]; exact hx1)), r_18⟩
  · skip
    refine s_Question_takes_8 ?_
    exact ⟨0, t, rfl, Or.inl ⟨rfl, rfl⟩, K, FrO.rf⟩
set_option maxHeartbeats 400000 in
theorem g_refuse {G : xw_G} {F L : Nat} {h : xw_A} {qo tk tl tz ph nd po k1 k2 k3 d ln c : Nat} {fk fs fe fd : Nat → Int32} {fp fn : Nat → Option Nat} {p nn n t : Nat} {wp : Int32} {f g : Nat → Int32} (K : QuC qo tk tl tz ph nd po k1 k2 k3 d ln c fk fs fe fd fp fn p nn n t wp f g h) (hF : 1 ≤ F) (hL : 20 ≤ L) :
    xw_Met G m_Question_refuse F L 0 0 [.ref qo] h (fun v h' => v = some .null ∧ (∃ wp' : Int32, QuC qo tk tl tz ph nd po k1 k2 k3 d ln c fk fs fe fd fp fn p nn n t wp' f g h') ∧ FrO [qo] h h') (fun _ _ => False) := by
  refine xw_Met.of rfl (by decide) (Nat.le_of_ble_eq_true rfl) ?_
  obtain ⟨e_qo, T, e_ph, e_nd, P, hp, hnn, ht, Fp, Nd⟩ := id K
  obtain ⟨e_po, e_d, e_k1, e_k2, e_k3, hln, PF⟩ := id P
  have e_tk := T.1
  have hc := PF.1
  have r0 : FrO [qo] h h := FrO.rf
  refine s_Question_refuse_0 (tokens_a0 := some tk) (phrases_a0 := some ph) (nodes_a0 := some nd) (letters_a0 := some d) (kinds_parts_a0 := some k1) (ends_parts_a0 := some k3) (letters_parts_a0 := some d) e_qo e_po e_k2 (vp_in_nI (by omega) (by omega)) ?_
  obtain ⟨h_1, z_4⟩ : ∃ z, z = xw_up h qo (.inr (5, [va_rf (some tk), va_rf (some ph), va_rf (some nd), .int (nI p), .int (nI nn), .int (fs (nI t).toNatClampNeg), .ref po, va_rf (some d), .int (nI t)])) := ⟨_, rfl⟩
  rw [← z_4]
  have e_2 : h_1 qo = some (.inr (5, [va_rf (some tk), va_rf (some ph), va_rf (some nd), .int (nI p), .int (nI nn), .int (fs (nI t).toNatClampNeg), .ref po, va_rf (some d), .int (nI t)])) := by rw [z_4]; exact xw_up_s _ _ _
  have f_3 : ∀ q, q ≠ qo → h_1 q = h q := fun q hq => by rw [z_4]; exact xw_up_n _ _ hq
  clear z_4
  have e_5 := (f_3 tk (xw_neC e_tk e_qo (by simp))).trans e_tk
  have e_6 := (f_3 ph (xw_neC e_ph e_qo (by simp))).trans e_ph
  have e_7 := (f_3 nd (xw_neC e_nd e_qo (by simp))).trans e_nd
  have e_8 := (f_3 po (xw_neC e_po e_qo (by simp))).trans e_po
  have e_9 := (f_3 d (xw_neC e_d e_qo (by simp))).trans e_d
  have e_10 := (f_3 k1 (xw_neC e_k1 e_qo (by simp))).trans e_k1
  have e_11 := (f_3 k2 (xw_neC e_k2 e_qo (by simp))).trans e_k2
  have e_12 := (f_3 k3 (xw_neC e_k3 e_qo (by simp))).trans e_k3
  have r_13 := r0.up (by simp) f_3
  exact ⟨rfl, ⟨_, K.q r_13 e_2 ht⟩, r_13⟩
set_option maxHeartbeats 400000 in
theorem g_beginsDeeper {G : xw_G} {F L : Nat} {h : xw_A} {qo tk tl tz ph nd po k1 k2 k3 d ln c : Nat} {fk fs fe fd : Nat → Int32} {fp fn : Nat → Option Nat} {p nn n t : Nat} {wp : Int32} {f g : Nat → Int32} (K : QuC qo tk tl tz ph nd po k1 k2 k3 d ln c fk fs fe fd fp fn p nn n t wp f g h) (hF : 2 ≤ F) (hL : 40 ≤ L) :
    xw_Met G m_Question_beginsDeeper F L 0 0 [.ref qo] h (fun v h' => ∃ b : Int32, v = some (.int b) ∧ (b = 0 ∨ b = 1) ∧ h = h') (fun _ _ => False) := by
  refine xw_Met.of rfl (by decide) (Nat.le_of_ble_eq_true rfl) ?_
  obtain ⟨e_qo, T, e_ph, e_nd, P, hp, hnn, ht, Fp, Nd⟩ := id K
  obtain ⟨e_po, e_d, e_k1, e_k2, e_k3, hln, PF⟩ := id P
  have e_tk := T.1
  have hc := PF.1
  refine s_Question_beginsDeeper_0 ?_
  refine x_callV (As := []) (b := qo) (rest := []) (F1 := 1) (L1 := 20) (mc := 0) (ms := 0) d_Question_beginsDeeper_1 cV_Question_69 (g_kind K (by omega) (by omega)) e_qo ⟨by decide, rfl⟩ ⟨by omega, by show 8 + (1 + 11) + 20 ≤ _; omega⟩ ⟨by omega, by omega⟩ (Nat.le_of_ble_eq_true rfl) (fun v_2 h_1 p_3 => ?_)
  obtain ⟨rfl, rfl⟩ := p_3
  refine x_le (xw_le_n (xw_le_n xw_le_e)) ?_
  refine s_Question_beginsDeeper_4 (fun z_4 => ?_) (fun z_5 => ?_)
  · skip
    refine s_Question_beginsDeeper_22 ?_
    refine s_Question_beginsDeeper_27 rfl ?_
    exact ⟨_, rfl, by simp, rfl⟩
  · skip
    refine s_Question_beginsDeeper_11 (fun z_6 => ?_) (fun z_7 => ?_)
    · skip
      refine s_Question_beginsDeeper_22 ?_
      refine s_Question_beginsDeeper_27 rfl ?_
      exact ⟨_, rfl, by simp, rfl⟩
    · skip
      refine s_Question_beginsDeeper_17 (fun z_8 => ?_) (fun z_9 => ?_)
      · skip
        refine s_Question_beginsDeeper_26 ?_
        refine s_Question_beginsDeeper_27 rfl ?_
        exact ⟨_, rfl, by simp, rfl⟩
      · skip
        refine s_Question_beginsDeeper_22 ?_
        refine s_Question_beginsDeeper_27 rfl ?_
        exact ⟨_, rfl, by simp, rfl⟩
set_option maxHeartbeats 400000 in
theorem g_beginsString {G : xw_G} {F L : Nat} {h : xw_A} {qo tk tl tz ph nd po k1 k2 k3 d ln c : Nat} {fk fs fe fd : Nat → Int32} {fp fn : Nat → Option Nat} {p nn n t : Nat} {wp : Int32} {f g : Nat → Int32} (K : QuC qo tk tl tz ph nd po k1 k2 k3 d ln c fk fs fe fd fp fn p nn n t wp f g h) (hF : 2 ≤ F) (hL : 40 ≤ L) :
    xw_Met G m_Question_beginsString F L 0 0 [.ref qo] h (fun v h' => ∃ b : Int32, v = some (.int b) ∧ (b = 0 ∨ (b = 1 ∧ (fk t = 2 ∨ fk t = 4))) ∧ h = h') (fun _ _ => False) := by
  refine xw_Met.of rfl (by decide) (Nat.le_of_ble_eq_true rfl) ?_
  obtain ⟨e_qo, T, e_ph, e_nd, P, hp, hnn, ht, Fp, Nd⟩ := id K
  obtain ⟨e_po, e_d, e_k1, e_k2, e_k3, hln, PF⟩ := id P
  have e_tk := T.1
  have hc := PF.1
  refine s_Question_beginsString_0 ?_
  refine x_callV (As := []) (b := qo) (rest := []) (F1 := 1) (L1 := 20) (mc := 0) (ms := 0) d_Question_beginsString_1 cV_Question_69 (g_kind K (by omega) (by omega)) e_qo ⟨by decide, rfl⟩ ⟨by omega, by show 8 + (1 + 11) + 20 ≤ _; omega⟩ ⟨by omega, by omega⟩ (Nat.le_of_ble_eq_true rfl) (fun v_2 h_1 p_3 => ?_)
  obtain ⟨rfl, rfl⟩ := p_3
  refine x_le (xw_le_n (xw_le_n xw_le_e)) ?_
  refine s_Question_beginsString_4 (fun z_4 => ?_) (fun z_5 => ?_)
  · skip
    refine s_Question_beginsString_15 ?_
    refine s_Question_beginsString_20 rfl ?_
    exact ⟨1, rfl, Or.inr ⟨rfl, Or.inl z_4⟩, rfl⟩
  · skip
    refine s_Question_beginsString_10 (fun z_6 => ?_) (fun z_7 => ?_)
    · skip
      refine s_Question_beginsString_19 ?_
      refine s_Question_beginsString_20 rfl ?_
      exact ⟨0, rfl, Or.inl rfl, rfl⟩
    · skip
      refine s_Question_beginsString_15 ?_
      refine s_Question_beginsString_20 rfl ?_
      exact ⟨1, rfl, Or.inr ⟨rfl, Or.inr z_7⟩, rfl⟩
set_option maxHeartbeats 400000 in
theorem g_beginsAtom {G : xw_G} {F L : Nat} {h : xw_A} {qo tk tl tz ph nd po k1 k2 k3 d ln c : Nat} {fk fs fe fd : Nat → Int32} {fp fn : Nat → Option Nat} {p nn n t : Nat} {wp : Int32} {f g : Nat → Int32} (K : QuC qo tk tl tz ph nd po k1 k2 k3 d ln c fk fs fe fd fp fn p nn n t wp f g h) (hF : 3 ≤ F) (hL : 61 ≤ L) :
    xw_Met G m_Question_beginsAtom F L 0 0 [.ref qo] h (fun v h' => ∃ b : Int32, v = some (.int b) ∧ (b = 0 ∨ b = 1) ∧ h = h') (fun _ _ => False) := by
  refine xw_Met.of rfl (by decide) (Nat.le_of_ble_eq_true rfl) ?_
  obtain ⟨e_qo, T, e_ph, e_nd, P, hp, hnn, ht, Fp, Nd⟩ := id K
  obtain ⟨e_po, e_d, e_k1, e_k2, e_k3, hln, PF⟩ := id P
  have e_tk := T.1
  have hc := PF.1
  refine s_Question_beginsAtom_0 ?_
  refine x_callV (As := []) (b := qo) (rest := []) (F1 := 1) (L1 := 20) (mc := 0) (ms := 0) d_Question_beginsAtom_1 cV_Question_69 (g_kind K (by omega) (by omega)) e_qo ⟨by decide, rfl⟩ ⟨by omega, by show 8 + (1 + 11) + 20 ≤ _; omega⟩ ⟨by omega, by omega⟩ (Nat.le_of_ble_eq_true rfl) (fun v_2 h_1 p_3 => ?_)
  obtain ⟨rfl, rfl⟩ := p_3
  refine s_Question_beginsAtom_4 ?_
  refine x_callV (As := []) (b := qo) (rest := []) (F1 := 2) (L1 := 40) (mc := 0) (ms := 0) d_Question_beginsAtom_6 cV_Question_106 (g_beginsDeeper K (by omega) (by omega)) e_qo ⟨by decide, rfl⟩ ⟨by omega, by show 8 + (2 + 11) + 40 ≤ _; omega⟩ ⟨by omega, by omega⟩ (Nat.le_of_ble_eq_true rfl) (fun v_7 h_6 p_8 => ?_)
  obtain ⟨b_4, rfl, hb_5, rfl⟩ := p_8
  refine s_Question_beginsAtom_9 (fun z_9 => ?_) (fun z_10 => ?_)
  · skip
    refine s_Question_beginsAtom_31 ?_
    refine s_Question_beginsAtom_36 rfl ?_
    exact ⟨_, rfl, by simp, rfl⟩
  · skip
    refine s_Question_beginsAtom_12 ?_
    refine x_callV (As := []) (b := qo) (rest := []) (F1 := 2) (L1 := 40) (mc := 0) (ms := 0) d_Question_beginsAtom_13 cV_Question_109 (g_beginsString K (by omega) (by omega)) e_qo ⟨by decide, rfl⟩ ⟨by omega, by show 8 + (2 + 11) + 40 ≤ _; omega⟩ ⟨by omega, by omega⟩ (Nat.le_of_ble_eq_true rfl) (fun v_14 h_13 p_15 => ?_)
    obtain ⟨b_11, rfl, hb_12, rfl⟩ := p_15
    refine x_le (xw_le_n (xw_le_s xw_le_e)) ?_
    refine s_Question_beginsAtom_16 (fun z_16 => ?_) (fun z_17 => ?_)
    · skip
      refine s_Question_beginsAtom_31 ?_
      refine s_Question_beginsAtom_36 rfl ?_
      exact ⟨_, rfl, by simp, rfl⟩
    · skip
      refine s_Question_beginsAtom_19 (fun z_18 => ?_) (fun z_19 => ?_)
      · skip
        refine s_Question_beginsAtom_31 ?_
        refine s_Question_beginsAtom_36 rfl ?_
        exact ⟨_, rfl, by simp, rfl⟩
      · skip
        refine s_Question_beginsAtom_25 (fun z_20 => ?_) (fun z_21 => ?_)
        · skip
          refine s_Question_beginsAtom_35 ?_
          refine s_Question_beginsAtom_36 rfl ?_
          exact ⟨_, rfl, by simp, rfl⟩
        · skip
          refine s_Question_beginsAtom_31 ?_
          refine s_Question_beginsAtom_36 rfl ?_
          exact ⟨_, rfl, by simp, rfl⟩
set_option maxHeartbeats 400000 in
theorem g_goesOn {G : xw_G} {F L : Nat} {h : xw_A} {x : Int32} {qo tk tl tz ph nd po k1 k2 k3 d ln c : Nat} {fk fs fe fd : Nat → Int32} {fp fn : Nat → Option Nat} {p nn n t : Nat} {wp : Int32} {f g : Nat → Int32} (K : QuC qo tk tl tz ph nd po k1 k2 k3 d ln c fk fs fe fd fp fn p nn n t wp f g h) (hx0 : ¬ x = 0) (hx1 : ¬ x = 1) (hF : 4 ≤ F) (hL : 82 ≤ L) :
    xw_Met G m_Question_goesOn F L 0 0 [.ref qo, .int x] h (fun v h' => ∃ (b : Int32) (t' : Nat), v = some (.int b) ∧ (b = 0 ∨ b = 1) ∧ QuC qo tk tl tz ph nd po k1 k2 k3 d ln c fk fs fe fd fp fn p nn n t' wp f g h' ∧ FrO [qo] h h') (fun _ _ => False) := by
  refine xw_Met.of rfl (by decide) (Nat.le_of_ble_eq_true rfl) ?_
  obtain ⟨e_qo, T, e_ph, e_nd, P, hp, hnn, ht, Fp, Nd⟩ := id K
  obtain ⟨e_po, e_d, e_k1, e_k2, e_k3, hln, PF⟩ := id P
  have e_tk := T.1
  have hc := PF.1
  have r0 : FrO [qo] h h := FrO.rf
  refine s_Question_goesOn_0 (fun z_1 => ?_) (fun z_2 => ?_)
  · skip
    refine s_Question_goesOn_13 ?_
    refine x_callV (As := [.int x]) (b := qo) (rest := []) (F1 := 2) (L1 := 40) (mc := 0) (ms := 0) d_Question_goesOn_15 cV_Question_103 (g_takes K hx0 hx1 (by omega) (by omega)) e_qo ⟨by decide, rfl⟩ ⟨by omega, by show 8 + (2 + 11) + 40 ≤ _; omega⟩ ⟨by omega, by omega⟩ (Nat.le_of_ble_eq_true rfl) (fun v_9 h_8 p_10 => ?_)
    obtain ⟨b_3, t_4, rfl, hb_5, K_6, fr_7⟩ := p_10
    obtain ⟨eqo_11, T_12, eph_13, end_14, P_15, hp_16, hnn_17, ht_18, Fp_19, Nd_20⟩ := id K_6
    obtain ⟨epo_21, ed_22, ek1_23, ek2_24, ek3_25, -, PF_26⟩ := id P_15
    have etk_27 := T_12.1
    refine x_le (xw_le_n (xw_le_n xw_le_e)) ?_
    refine s_Question_goesOn_18 (nb01 (tk01 hb_5)) ?_
    exact ⟨_, t_4, rfl, tk01 hb_5, K_6, fr_7⟩
  · skip
    refine s_Question_goesOn_6 ?_
    refine x_callV (As := []) (b := qo) (rest := []) (F1 := 3) (L1 := 61) (mc := 0) (ms := 0) d_Question_goesOn_7 cV_Question_99 (g_beginsAtom K (by omega) (by omega)) e_qo ⟨by decide, rfl⟩ ⟨by omega, by show 8 + (2 + 11) + 61 ≤ _; omega⟩ ⟨by omega, by omega⟩ (Nat.le_of_ble_eq_true rfl) (fun v_31 h_30 p_32 => ?_)
    obtain ⟨b_28, rfl, hb_29, rfl⟩ := p_32
    refine x_le (xw_le_n (xw_le_n xw_le_e)) ?_
    refine s_Question_goesOn_10 ?_
    refine s_Question_goesOn_18 (nb01 hb_29) ?_
    exact ⟨_, t, rfl, hb_29, K, r0⟩
set_option maxHeartbeats 400000 in
theorem g_readString {G : xw_G} {F L : Nat} {h : xw_A} {B : List Nat} {qo tk tl tz ph nd po k1 k2 k3 d ln c : Nat} {fk fs fe fd : Nat → Int32} {fp fn : Nat → Option Nat} {p nn n t : Nat} {wp : Int32} {f g : Nat → Int32} (K : QuC qo tk tl tz ph nd po k1 k2 k3 d ln c fk fs fe fd fp fn p nn n t wp f g h) (A : QuA B qo tk tl tz ph nd po k1 k2 k3 d fp fn) (hF : 3 ≤ F) (hL : 68 ≤ L) :
    xw_Met G m_Question_readString F L 0 0 [.ref qo] h (fun v h' => ∃ (b : Int32) (n' t' : Nat) (f' g' : Nat → Int32), v = some (.int b) ∧ (b = 0 ∨ b = 1) ∧ n ≤ n' ∧ QuC qo tk tl tz ph nd po k1 k2 k3 d ln c fk fs fe fd fp fn p nn n' t' wp f' g' h' ∧ FrO B h h') (fun _ _ => False) := by
  refine xw_Met.of rfl (by decide) (Nat.le_of_ble_eq_true rfl) ?_
  obtain ⟨e_qo, T, e_ph, e_nd, P, hp, hnn, ht, Fp, Nd⟩ := id K
  obtain ⟨e_po, e_d, e_k1, e_k2, e_k3, hln, PF⟩ := id P
  have e_tk := T.1
  have hc := PF.1
  have r0 : FrO B h h := FrO.rf
  refine s_Question_readString_0 ?_
  refine x_callV (As := []) (b := qo) (rest := []) (F1 := 2) (L1 := 40) (mc := 0) (ms := 0) d_Question_readString_1 cV_Question_109 (g_beginsString K (by omega) (by omega)) e_qo ⟨by decide, rfl⟩ ⟨by omega, by show 8 + (2 + 11) + 40 ≤ _; omega⟩ ⟨by omega, by omega⟩ (Nat.le_of_ble_eq_true rfl) (fun v_4 h_3 p_5 => ?_)
  obtain ⟨b_1, rfl, hb_2, rfl⟩ := p_5
  refine s_Question_readString_4 (fun z_6 => ?_) (fun z_7 => ?_)
  · skip
    obtain ⟨a, b, ha, hb, hab, hbl⟩ := PF.2.2.2.1 t ht
    refine s_Question_readString_9 (tokens_a0 := some tk) (phrases_a0 := some ph) (nodes_a0 := some nd) (letters_a0 := some d) (kinds_parts_a0 := some k1) (letters_parts_a0 := some d) e_qo e_po e_k2 (vp_in_nI (by omega) (by omega)) e_k3 (vp_in_nI (by omega) (by omega)) ?_
    rw [nI_clamp (by omega), ha, hb]
    refine x_callV (As := [.ref d, .int (nI a), .int (nI b)]) (b := tk) (rest := []) (F1 := 2) (L1 := 42) (mc := 0) (ms := 0) d_Question_readString_41 cV_Question_152 (g_gather T e_d (fun z => A.2.2.2.1.2.2.2.1 (by rw [← z]; exact A.1.2.2.1)) hab (show b ≤ 96 by omega) (by decide) (by omega) (by omega)) e_tk ⟨by decide, rfl⟩ ⟨by omega, by show 8 + (7 + 11) + 42 ≤ _; omega⟩ ⟨by omega, by omega⟩ (Nat.le_of_ble_eq_true rfl) (fun v_16 h_15 p_17 => ?_)
    obtain ⟨rfl, ⟨n_8, f_9, g_10, hn_11, -, -, T_12⟩, fr_13⟩ := p_17
    have K_14 := K.tok A fr_13 T_12 hn_11
    have r_18 := r0.trans (fr_13.mono (suC A.1.2.1 (suC A.1.2.2.1 (suC A.1.2.2.2 suN))))
    obtain ⟨eqo_19, T_20, eph_21, end_22, P_23, hp_24, hnn_25, ht_26, Fp_27, Nd_28⟩ := id K_14
    obtain ⟨epo_29, ed_30, ek1_31, ek2_32, ek3_33, -, PF_34⟩ := id P_23
    have etk_35 := T_20.1
    refine s_Question_readString_44 (tokens_a0 := some tk) (phrases_a0 := some ph) (nodes_a0 := some nd) (parts_a0 := some po) (letters_a0 := some d) eqo_19 ?_
    obtain ⟨h_36, z_39⟩ : ∃ z, z = xw_up h_15 qo (.inr (5, [va_rf (some tk), va_rf (some ph), va_rf (some nd), .int (nI p), .int (nI nn), .int wp, va_rf (some po), va_rf (some d), .int ((nI t) + 1)])) := ⟨_, rfl⟩
    rw [← z_39]
    have e_37 : h_36 qo = some (.inr (5, [va_rf (some tk), va_rf (some ph), va_rf (some nd), .int (nI p), .int (nI nn), .int wp, va_rf (some po), va_rf (some d), .int ((nI t) + 1)])) := by rw [z_39]; exact xw_up_s _ _ _
    have f_38 : ∀ q, q ≠ qo → h_36 q = h_15 q := fun q hq => by rw [z_39]; exact xw_up_n _ _ hq
    clear z_39
    have e_40 := (f_38 tk (xw_neC etk_35 eqo_19 (by simp))).trans etk_35
    have e_41 := (f_38 ph (xw_neC eph_21 eqo_19 (by simp))).trans eph_21
    have e_42 := (f_38 nd (xw_neC end_22 eqo_19 (by simp))).trans end_22
    have e_43 := (f_38 po (xw_neC epo_29 eqo_19 (by simp))).trans epo_29
    have e_44 := (f_38 d (xw_neC ed_30 eqo_19 (by simp))).trans ed_30
    have e_45 := (f_38 k1 (xw_neC ek1_31 eqo_19 (by simp))).trans ek1_31
    have e_46 := (f_38 k2 (xw_neC ek2_32 eqo_19 (by simp))).trans ek2_32
    have e_47 := (f_38 k3 (xw_neC ek3_33 eqo_19 (by simp))).trans ek3_33
    have r_48 := r_18.up A.1.1 f_38
    rw [nI_1] at e_37
    have hk9 : ¬ fk t = 0 ∧ ¬ fk t = 1 := by rcases hb_2 with z | ⟨-, z | z⟩ <;> first | exact absurd z z_6 | (rw [z]; decide)
    exact ⟨1, n_8, t + 1, f_9, g_10, rfl, Or.inr rfl, hn_11, K_14.q (FrO.rf.up (by simp) f_38) e_37 (PF.next ht hk9.1 hk9.2), r_48⟩
  · skip
    refine s_Question_readString_7 ?_
    exact ⟨0, n, t, f, g, rfl, Or.inl rfl, Nat.le_refl _, K, FrO.rf⟩
theorem s_Question_readPhrase_59n {G : xw_G} {F L bc bs : Nat} {pr : Option Value → xw_A → Prop} {px : String → xw_A → Prop} {h : xw_A}  (kr : pr (some (.int 0)) h) : xw G m_Question_readPhrase F L bc bs pr px 59 [none, none, none] [.null] h := by
  refine x_pop d_Question_readPhrase_59 rfl ?_
  refine x_iconst (v := 0) d_Question_readPhrase_60 (by decide) ?_
  exact x_zret d_Question_readPhrase_61 rfl rfl kr
set_option maxHeartbeats 2000000 in
theorem lp_readPhrase {G : xw_G} {F L bc bs : Nat} {pr : Option Value → xw_A → Prop} {px : String → xw_A → Prop} {B : List Nat} {qo tk tl tz ph nd po k1 k2 k3 d ln c : Nat} {fk fs fe fd : Nat → Int32} {fp fn : Nat → Option Nat} {p nn u : Nat} {wp : Int32} {h0 : xw_A} (A : QuA B qo tk tl tz ph nd po k1 k2 k3 d fp fn) (kk0 : ∀ (h : xw_A) (n t : Nat) (wp : Int32) (f g : Nat → Int32), QuC qo tk tl tz ph nd po k1 k2 k3 d ln c fk fs fe fd fp fn p nn n t wp f g h → u ≤ n → FrO B h0 h → pr (some (.int 0)) h) (hF : 4 ≤ F) (hL : 88 ≤ L) (kk : ∀ (h : xw_A) (n t : Nat) (f g : Nat → Int32), QuC qo tk tl tz ph nd po k1 k2 k3 d ln c fk fs fe fd fp fn p nn n t wp f g h → u ≤ n → FrO B h0 h → xw G m_Question_readPhrase F L bc bs pr px 68 [some (.ref qo), some (.int (nI u)), none] [] h) :
    ∀ (dd i : Nat) (h : xw_A) (n : Nat) (t : Nat) (f : Nat → Int32) (g : Nat → Int32), i + dd = 96 → QuC qo tk tl tz ph nd po k1 k2 k3 d ln c fk fs fe fd fp fn p nn n t wp f g h → u ≤ n → FrO B h0 h → xw G m_Question_readPhrase F L bc bs pr px 33 [some (.ref qo), some (.int (nI u)), some (.int (nI i))] [] h := by
  intro dd
  induction dd with
  | zero =>
    intro i h n t f g hi K hu r0
    obtain rfl : i = 96 := by omega
    obtain ⟨e_qo, T, e_ph, e_nd, P, hp, hnn, ht, Fp, Nd⟩ := id K
    obtain ⟨e_po, e_d, e_k1, e_k2, e_k3, hln, PF⟩ := id P
    have e_tk := T.1
    have hc := PF.1
    refine s_Question_readPhrase_33 (fun z_1 => ?_) (fun z => absurd z (by decide))
    exact kk _ _ _ _ _ K (by omega) r0
  | succ dd ih =>
    intro i h n t f g hi K hu r0
    obtain ⟨e_qo, T, e_ph, e_nd, P, hp, hnn, ht, Fp, Nd⟩ := id K
    obtain ⟨e_po, e_d, e_k1, e_k2, e_k3, hln, PF⟩ := id P
    have e_tk := T.1
    have hc := PF.1
    refine s_Question_readPhrase_33 (fun z => absurd z (nI_ge (b := 96) (show i < 96 by omega) (by decide))) (fun z_1 => ?_)
    refine s_Question_readPhrase_39 ?_
    refine x_callV (As := [.int 14]) (b := qo) (rest := []) (F1 := 2) (L1 := 40) (mc := 0) (ms := 0) d_Question_readPhrase_42 cV_Question_103 (g_takes K (by decide) (by decide) (by omega) (by omega)) e_qo ⟨by decide, rfl⟩ ⟨by omega, by show 8 + (2 + 11) + 40 ≤ _; omega⟩ ⟨by omega, by omega⟩ (Nat.le_of_ble_eq_true rfl) (fun v_8 h_7 p_9 => ?_)
    obtain ⟨b_2, t_3, rfl, hb_4, K_5, fr_6⟩ := p_9
    have r_10 := r0.trans (fr_6.mono (suC A.1.1 suN))
    obtain ⟨eqo_11, T_12, eph_13, end_14, P_15, hp_16, hnn_17, ht_18, Fp_19, Nd_20⟩ := id K_5
    obtain ⟨epo_21, ed_22, ek1_23, ek2_24, ek3_25, -, PF_26⟩ := id P_15
    have etk_27 := T_12.1
    refine s_Question_readPhrase_45 (fun z_28 => ?_) (fun z_29 => ?_)
    · skip
      exact kk _ _ _ _ _ K_5 (by omega) r_10
    · skip
      refine s_Question_readPhrase_48 ?_
      refine x_callV (As := []) (b := qo) (rest := []) (F1 := 3) (L1 := 68) (mc := 0) (ms := 0) d_Question_readPhrase_49 cV_Question_136 (g_readString K_5 A (by omega) (by omega)) eqo_11 ⟨by decide, rfl⟩ ⟨by omega, by show 8 + (1 + 11) + 68 ≤ _; omega⟩ ⟨by omega, by omega⟩ (Nat.le_of_ble_eq_true rfl) (fun v_40 h_39 p_41 => ?_)
      obtain ⟨b_30, n_31, t_32, f_33, g_34, rfl, hb_35, hn_36, K_37, fr_38⟩ := p_41
      have r_42 := r_10.trans fr_38
      obtain ⟨eqo_43, T_44, eph_45, end_46, P_47, hp_48, hnn_49, ht_50, Fp_51, Nd_52⟩ := id K_37
      obtain ⟨epo_53, ed_54, ek1_55, ek2_56, ek3_57, -, PF_58⟩ := id P_47
      have etk_59 := T_44.1
      refine s_Question_readPhrase_52 (fun z_60 => ?_) (fun z_61 => ?_)
      · skip
        refine s_Question_readPhrase_62 ?_
        rw [nI_1]
        exact ih (i + 1) _ _ _ _ _ (by omega) K_37 (by omega) r_42
      · skip
        refine s_Question_readPhrase_55 ?_
        refine x_callV (As := []) (b := qo) (rest := []) (F1 := 1) (L1 := 20) (mc := 0) (ms := 0) d_Question_readPhrase_56 cV_Question_73 (g_refuse K_37 (by omega) (by omega)) eqo_43 ⟨by decide, rfl⟩ ⟨by omega, by show 8 + (1 + 11) + 20 ≤ _; omega⟩ ⟨by omega, by omega⟩ (Nat.le_of_ble_eq_true rfl) (fun v_66 h_65 p_67 => ?_)
        obtain ⟨rfl, ⟨wp_62, K_63⟩, fr_64⟩ := p_67
        have r_68 := r_42.trans (fr_64.mono (suC A.1.1 suN))
        obtain ⟨eqo_69, T_70, eph_71, end_72, P_73, hp_74, hnn_75, ht_76, Fp_77, Nd_78⟩ := id K_63
        obtain ⟨epo_79, ed_80, ek1_81, ek2_82, ek3_83, -, PF_84⟩ := id P_73
        have etk_85 := T_70.1
        refine x_le (xw_le_n (xw_le_n (xw_le_n xw_le_e))) ?_
        refine s_Question_readPhrase_59n ?_
        exact kk0 _ _ _ _ _ _ K_63 (by omega) r_68
set_option maxHeartbeats 1000000 in
theorem g_readPhrase {G : xw_G} {F L : Nat} {h : xw_A} {B : List Nat} {qo tk tl tz ph nd po k1 k2 k3 d ln c : Nat} {fk fs fe fd : Nat → Int32} {fp fn : Nat → Option Nat} {p nn n t : Nat} {wp : Int32} {f g : Nat → Int32} (K : QuC qo tk tl tz ph nd po k1 k2 k3 d ln c fk fs fe fd fp fn p nn n t wp f g h) (A : QuA B qo tk tl tz ph nd po k1 k2 k3 d fp fn) (hF : 4 ≤ F) (hL : 88 ≤ L) :
    xw_Met G m_Question_readPhrase F L 0 0 [.ref qo] h (fun v h' => QuB B qo tk tl tz ph nd po k1 k2 k3 d ln c fk fs fe fd fp fn p nn n h v h') (fun _ _ => False) := by
  refine xw_Met.of rfl (by decide) (Nat.le_of_ble_eq_true rfl) ?_
  obtain ⟨e_qo, T, e_ph, e_nd, P, hp, hnn, ht, Fp, Nd⟩ := id K
  obtain ⟨e_po, e_d, e_k1, e_k2, e_k3, hln, PF⟩ := id P
  have e_tk := T.1
  have hc := PF.1
  have r0 : FrO B h h := FrO.rf
  refine s_Question_readPhrase_0 (phrases_a0 := some ph) (nodes_a0 := some nd) (parts_a0 := some po) (letters_a0 := some d) (letters_tokens_a0 := some tl) (starts_tokens_a0 := some tz) e_qo e_tk (fun z_1 => ?_) (fun z_2 => ?_)
  · skip
    refine s_Question_readPhrase_24 ?_
    refine x_callV (As := []) (b := qo) (rest := []) (F1 := 1) (L1 := 20) (mc := 0) (ms := 0) d_Question_readPhrase_25 cV_Question_73 (g_refuse K (by omega) (by omega)) e_qo ⟨by decide, rfl⟩ ⟨by omega, by show 8 + (1 + 11) + 20 ≤ _; omega⟩ ⟨by omega, by omega⟩ (Nat.le_of_ble_eq_true rfl) (fun v_7 h_6 p_8 => ?_)
    obtain ⟨rfl, ⟨wp_3, K_4⟩, fr_5⟩ := p_8
    have r_9 := r0.trans (fr_5.mono (suC A.1.1 suN))
    obtain ⟨eqo_10, T_11, eph_12, end_13, P_14, hp_15, hnn_16, ht_17, Fp_18, Nd_19⟩ := id K_4
    obtain ⟨epo_20, ed_21, ek1_22, ek2_23, ek3_24, -, PF_25⟩ := id P_14
    have etk_26 := T_11.1
    refine x_le (xw_le_n (xw_le_n (xw_le_n xw_le_e))) ?_
    refine s_Question_readPhrase_28n ?_
    exact ⟨0, p, n, rfl, Or.inl rfl, by omega, by omega, K_4.s, r_9⟩
  · skip
    have hp12 : p < 12 := Nat.lt_of_not_le (fun q => z_2 (nI_le (a := 12) q (by omega)))
    refine s_Question_readPhrase_17 ?_
    refine x_callV (As := []) (b := qo) (rest := []) (F1 := 3) (L1 := 68) (mc := 0) (ms := 0) d_Question_readPhrase_18 cV_Question_136 (g_readString K A (by omega) (by omega)) e_qo ⟨by decide, rfl⟩ ⟨by omega, by show 8 + (1 + 11) + 68 ≤ _; omega⟩ ⟨by omega, by omega⟩ (Nat.le_of_ble_eq_true rfl) (fun v_37 h_36 p_38 => ?_)
    obtain ⟨b_27, n_28, t_29, f_30, g_31, rfl, hb_32, hn_33, K_34, fr_35⟩ := p_38
    have r_39 := r0.trans fr_35
    obtain ⟨eqo_40, T_41, eph_42, end_43, P_44, hp_45, hnn_46, ht_47, Fp_48, Nd_49⟩ := id K_34
    obtain ⟨epo_50, ed_51, ek1_52, ek2_53, ek3_54, -, PF_55⟩ := id P_44
    have etk_56 := T_41.1
    refine s_Question_readPhrase_21 (fun z_57 => ?_) (fun z_58 => ?_)
    · skip
      refine s_Question_readPhrase_31 ?_
      refine lp_readPhrase A (fun hh nn_ tt ww ff gg KK hu_ rr => ⟨0, p, nn_, rfl, Or.inl rfl, Nat.le_refl _, hu_, KK.s, r_39.trans rr⟩) (by omega) (by omega) (fun h_59 n_60 t_61 f_62 g_63 K_64 hu_65 fr_66 => ?_) 96 0 _ _ _ _ _ rfl K_34 (by omega) FrO.rf
      have r99 := r_39.trans fr_66
      obtain ⟨eqo_67, T_68, eph_69, end_70, P_71, hp_72, hnn_73, ht_74, Fp_75, Nd_76⟩ := id K_64
      obtain ⟨epo_77, ed_78, ek1_79, ek2_80, ek3_81, -, PF_82⟩ := id P_71
      have etk_83 := T_68.1
      obtain ⟨a, ax, ay, ab, ea1, ea2, -⟩ := Fp_75 p hp12
      refine s_Question_readPhrase_68 (g76 := a) (nodes_a0 := some nd) (parts_a0 := some po) (letters_a0 := some d) (letters_tokens_a0 := some tl) (starts_tokens_a0 := some tz) eqo_67 eph_69 (vp_in_nI hp12 (by decide)) (by rw [nI_clamp (by omega)]; exact ea1) ea2 etk_83 ?_
      rw [xw_up_up]
      refine x_u1 (fun h9 e9 f9 => ?_)
      rw [pk_sub hu_65] at e9
      have K9 := K_64.phr A (FrO.rf.up (by simp) f9) hp12 (Nat.le_refl _) ea1 e9
      have r98 := r99.up (A.2.1 p a hp12 ea1) f9
      obtain ⟨eqo_84, T_85, eph_86, end_87, P_88, hp_89, hnn_90, ht_91, Fp_92, Nd_93⟩ := id K9
      obtain ⟨epo_94, ed_95, ek1_96, ek2_97, ek3_98, -, PF_99⟩ := id P_88
      have etk_100 := T_85.1
      refine x_callV (As := [.int 15]) (b := qo) (rest := [.ref a]) (F1 := 2) (L1 := 40) (mc := 0) (ms := 0) d_Question_readPhrase_100 cV_Question_103 (g_takes K9 (by decide) (by decide) (by omega) (by omega)) eqo_84 ⟨by decide, rfl⟩ ⟨by omega, by show 8 + (2 + 11) + 40 ≤ _; omega⟩ ⟨by omega, by omega⟩ (Nat.le_of_ble_eq_true rfl) (fun v_107 h_106 p_108 => ?_)
      obtain ⟨b_101, t_102, rfl, hb_103, K_104, fr_105⟩ := p_108
      have r_109 := r98.trans (fr_105.mono (suC A.1.1 suN))
      obtain ⟨eqo_110, T_111, eph_112, end_113, P_114, hp_115, hnn_116, ht_117, Fp_118, Nd_119⟩ := id K_104
      obtain ⟨epo_120, ed_121, ek1_122, ek2_123, ek3_124, -, PF_125⟩ := id P_114
      have etk_126 := T_111.1
      have e97 := fr_105 a _ (nm1 (xw_neC e9 K9.1 (by simp))) e9
      refine x_le (xw_le_s (xw_le_n (xw_le_n xw_le_e))) ?_
      refine s_Question_readPhrase_103 (tokens_a0 := some tk) (phrases_a0 := some ph) (nodes_a0 := some nd) (parts_a0 := some po) (letters_a0 := some d) e97 (fb01 (tk01 hb_103)) eqo_110 ?_
      rw [nI_1]
      refine ⟨1, p + 1, n_60, rfl, Or.inr rfl, Nat.le_succ _, hu_65, (QuC.p1 (K_104.phr A (FrO.rf.up (by simp) (fun q hq => xw_up_n _ _ hq)) hp12 (Nat.le_refl _) ea1 (xw_up_s _ _ _)) (FrO.rf.up (by simp) (fun q hq => xw_up_n _ _ hq)) (xw_up_s _ _ _) hp12 ea1 (xw_up_s _ _ _) (by omega)).s, (r_109.up (A.2.1 p a hp12 ea1) (fun q hq => xw_up_n _ _ hq)).up A.1.1 (fun q hq => xw_up_n _ _ hq)⟩
    · skip
      refine s_Question_readPhrase_24 ?_
      refine x_callV (As := []) (b := qo) (rest := []) (F1 := 1) (L1 := 20) (mc := 0) (ms := 0) d_Question_readPhrase_25 cV_Question_73 (g_refuse K_34 (by omega) (by omega)) eqo_40 ⟨by decide, rfl⟩ ⟨by omega, by show 8 + (1 + 11) + 20 ≤ _; omega⟩ ⟨by omega, by omega⟩ (Nat.le_of_ble_eq_true rfl) (fun v_131 h_130 p_132 => ?_)
      obtain ⟨rfl, ⟨wp_127, K_128⟩, fr_129⟩ := p_132
      have r_133 := r_39.trans (fr_129.mono (suC A.1.1 suN))
      obtain ⟨eqo_134, T_135, eph_136, end_137, P_138, hp_139, hnn_140, ht_141, Fp_142, Nd_143⟩ := id K_128
      obtain ⟨epo_144, ed_145, ek1_146, ek2_147, ek3_148, -, PF_149⟩ := id P_138
      have etk_150 := T_135.1
      refine x_le (xw_le_n (xw_le_n (xw_le_n xw_le_e))) ?_
      refine s_Question_readPhrase_28n ?_
      exact ⟨0, p, n_28, rfl, Or.inl rfl, by omega, by omega, K_128.s, r_133⟩
set_option maxHeartbeats 1000000 in
theorem g_newNode {G : xw_G} {F L : Nat} {h : xw_A} {x : Int32} {qo tk tl tz ph nd po k1 k2 k3 d ln c : Nat} {fk fs fe fd : Nat → Int32} {fp fn : Nat → Option Nat} {p nn n t : Nat} {wp : Int32} {f g : Nat → Int32} (K : QuC qo tk tl tz ph nd po k1 k2 k3 d ln c fk fs fe fd fp fn p nn n t wp f g h) (hF : 2 ≤ F) (hL : 40 ≤ L) :
    xw_Met G m_Question_newNode F L 0 0 [.ref qo, .int x] h (fun v h' => (v = some .null ∧ (∃ wp' : Int32, QuC qo tk tl tz ph nd po k1 k2 k3 d ln c fk fs fe fd fp fn p nn n t wp' f g h') ∧ FrO [qo] h h') ∨ (∃ (a : Nat) (l r : Option Nat) (y1 y2 z1 z2 z3 z4 : Int32), v = some (.ref a) ∧ nn < 24 ∧ fn nn = some a ∧ h' a = some (.inr (2, [.int x, va_rf l, va_rf r, .int y1, .int y2, .int z1, .int z2, .int z3, .int z4])) ∧ h' qo = some (.inr (5, [.ref tk, .ref ph, .ref nd, .int (nI p), .int (nI (nn + 1)), .int wp, .ref po, .ref d, .int (nI t)])) ∧ FrO [a, qo] h h')) (fun _ _ => False) := by
  refine xw_Met.of rfl (by decide) (Nat.le_of_ble_eq_true rfl) ?_
  obtain ⟨e_qo, T, e_ph, e_nd, P, hp, hnn, ht, Fp, Nd⟩ := id K
  obtain ⟨e_po, e_d, e_k1, e_k2, e_k3, hln, PF⟩ := id P
  have e_tk := T.1
  have hc := PF.1
  refine s_Question_newNode_0 (tokens_a0 := some tk) (phrases_a0 := some ph) (nodes_a0 := some nd) (parts_a0 := some po) (letters_a0 := some d) e_qo (fun z => ?_) (fun z => ?_)
  · have hn : nn < 24 := Nat.lt_of_not_le (fun q => nI_nlt (a := nn) (b := 24) q (by omega) z)
    obtain ⟨a, l, r, k, y1, y2, z1, z2, z3, z4, ea1, ea2, -⟩ := Nd nn hn
    refine s_Question_newNode_14 (tokens_a0 := some tk) (phrases_a0 := some ph) (parts_a0 := some po) (letters_a0 := some d) (g22 := a) (left_g22 := l) (right_g22 := r) e_qo e_nd (vp_in_nI hn (by decide)) (by rw [nI_clamp (by omega)]; exact ea1) ea2 ?_
    rw [nI_1]
    have naq : a ≠ qo := xw_neC ea2 e_qo (by simp)
    refine Or.inr ⟨a, l, r, y1, y2, z1, z2, z3, z4, rfl, hn, ea1, ?_, xw_up_s _ _ _, (FrO.rf.up (by simp) (fun q hq => xw_up_n _ _ hq)).up (by simp) (fun q hq => xw_up_n _ _ hq)⟩
    rw [xw_up_n _ _ naq]
    exact xw_up_s _ _ _
  · refine s_Question_newNode_9 ?_
    refine x_callV (As := []) (b := qo) (rest := []) (F1 := 1) (L1 := 20) (mc := 0) (ms := 0) d_Question_newNode_10 cV_Question_73 (g_refuse K (by omega) (by omega)) e_qo ⟨by decide, rfl⟩ ⟨by omega, by show 8 + (1 + 11) + 20 ≤ _; omega⟩ ⟨by omega, by omega⟩ (Nat.le_of_ble_eq_true rfl) (fun v h1 q => ?_)
    obtain ⟨rfl, ⟨wp2, K2⟩, fr⟩ := q
    refine x_le (xw_le_n (xw_le_n (xw_le_n xw_le_e))) ?_
    refine s_Question_newNode_13 (s0 := none) ?_
    exact Or.inl ⟨rfl, ⟨wp2, K2⟩, fr⟩
set_option maxHeartbeats 1000000 in
theorem g_group {G : xw_G} {F L : Nat} {h : xw_A} {u : Nat} {re co pl : Int32} {B : List Nat} {qo tk tl tz ph nd po k1 k2 k3 d ln c : Nat} {fk fs fe fd : Nat → Int32} {fp fn : Nat → Option Nat} {p nn n t : Nat} {wp : Int32} {f g : Nat → Int32} (K : QuC qo tk tl tz ph nd po k1 k2 k3 d ln c fk fs fe fd fp fn p nn n t wp f g h) (A : QuA B qo tk tl tz ph nd po k1 k2 k3 d fp fn) (hu : u ≤ p) (hF : 3 ≤ F) (hL : 62 ≤ L) :
    xw_Met G m_Question_group F L 0 0 [.ref qo, .int (nI u), .int re, .int co, .int pl] h (fun v h' => QuR B qo tk tl tz ph nd po k1 k2 k3 d ln c fk fs fe fd fp fn p nn n h v h') (fun _ _ => False) := by
  refine xw_Met.of rfl (by decide) (Nat.le_of_ble_eq_true rfl) ?_
  have e_qo := K.1
  refine s_Question_group_0 ?_
  refine x_callV (As := [.int 0]) (b := qo) (rest := []) (F1 := 2) (L1 := 40) (mc := 0) (ms := 0) d_Question_group_2 cV_Question_156 (g_newNode K (by omega) (by omega)) e_qo ⟨by decide, rfl⟩ ⟨by omega, by show 8 + (3 + 11) + 40 ≤ _; omega⟩ ⟨by omega, by omega⟩ (Nat.le_of_ble_eq_true rfl) (fun v h1 q => ?_)
  rcases q with ⟨rfl, ⟨wp2, K2⟩, fr⟩ | ⟨a, l, r, y1, y2, z1, z2, z3, z4, rfl, hn, ha, e1, e2, fr⟩
  · refine s_Question_group_5 (s0 := none) (fun _ => ?_) (fun a z => nomatch z)
    refine s_Question_group_46 (r5 := none) ?_
    exact ⟨none, p, nn, n, rfl, Nat.le_refl _, Nat.le_refl _, Nat.le_refl _, (fun a z => nomatch z), K2.s, fr.mono (suC A.1.1 suN)⟩
  · refine s_Question_group_5 (s0 := some a) (fun z => nomatch z) (fun a9 z => ?_)
    refine s_Question_group_12 (left_a5 := l) (right_a5 := r) (tokens_a0 := some tk) (phrases_a0 := some ph) (nodes_a0 := some nd) (parts_a0 := some po) (letters_a0 := some d) e1 e2 ?_
    rw [xw_up_up, xw_up_up, xw_up_up]
    refine x_u1 (fun h2 g2 f2 => ?_)
    refine s_Question_group_39 (left_a5 := l) (right_a5 := r) g2 ?_
    refine x_u1 (fun h3 g3 f3 => ?_)
    refine s_Question_group_46 (r5 := some a) ?_
    have naq : qo ≠ a := xw_neC e2 e1 (by simp)
    have e4 := (f3 _ naq).trans ((f2 _ naq).trans e2)
    have rr : FrO [a, qo] h h3 := (fr.up (by simp) f2).up (by simp) f3
    exact ⟨some a, p, nn + 1, n, rfl, Nat.le_refl _, Nat.le_succ _, Nat.le_refl _, fun b z => ⟨nn, Nat.lt_succ_self _, by rw [← z]; exact ha⟩, (K.nd1 A rr hn ha g3 e4 (Or.inl ⟨rfl, u, p, rfl, rfl, hu, Nat.le_refl _⟩)).s, rr.mono (suC (A.2.2.1 nn a hn ha) (suC A.1.1 suN))⟩
set_option maxHeartbeats 1000000 in
theorem g_join {G : xw_G} {F L : Nat} {h : xw_A} {x : Int32} {a1 a2 i1 i2 : Nat} {B : List Nat} {qo tk tl tz ph nd po k1 k2 k3 d ln c : Nat} {fk fs fe fd : Nat → Int32} {fp fn : Nat → Option Nat} {p nn n t : Nat} {wp : Int32} {f g : Nat → Int32} (K : QuC qo tk tl tz ph nd po k1 k2 k3 d ln c fk fs fe fd fp fn p nn n t wp f g h) (A : QuA B qo tk tl tz ph nd po k1 k2 k3 d fp fn) (hx0 : ¬ x = 0) (hi1 : i1 < nn) (hf1 : fn i1 = some a1) (hi2 : i2 < nn) (hf2 : fn i2 = some a2) (hF : 3 ≤ F) (hL : 62 ≤ L) :
    xw_Met G m_Question_join F L 0 0 [.ref qo, .int x, .ref a1, .ref a2] h (fun v h' => QuR B qo tk tl tz ph nd po k1 k2 k3 d ln c fk fs fe fd fp fn p nn n h v h') (fun _ _ => False) := by
  refine xw_Met.of rfl (by decide) (Nat.le_of_ble_eq_true rfl) ?_
  have e_qo := K.1
  refine s_Question_join_0 (fun z8 => ?_) (fun z8 => ?_)
  · refine s_Question_join_12 ?_
    refine x_callV (As := [.int x]) (b := qo) (rest := []) (F1 := 2) (L1 := 40) (mc := 0) (ms := 0) d_Question_join_13 cV_Question_156 (g_newNode K (by omega) (by omega)) e_qo ⟨by decide, rfl⟩ ⟨by omega, by show 8 + (3 + 11) + 40 ≤ _; omega⟩ ⟨by omega, by omega⟩ (Nat.le_of_ble_eq_true rfl) (fun v h1 q => ?_)
    rcases q with ⟨rfl, ⟨wp2, K2⟩, fr⟩ | ⟨a, l, r, y1, y2, z1, z2, z3, z4, rfl, hn, ha, e1, e2, fr⟩
    · refine s_Question_join_16 (s0 := none) (fun _ => ?_) (fun a z => nomatch z)
      refine s_Question_join_35 (r4 := none) ?_
      exact ⟨none, p, nn, n, rfl, Nat.le_refl _, Nat.le_refl _, Nat.le_refl _, (fun a z => nomatch z), K2.s, fr.mono (suC A.1.1 suN)⟩
    · refine s_Question_join_16 (s0 := some a) (fun z => nomatch z) (fun a9 z => ?_)
      refine s_Question_join_23 (left_a4 := l) (right_a4 := r) e1 ?_
      rw [xw_up_up]
      refine x_u1 (fun h2 g2 f2 => ?_)
      refine s_Question_join_35 (r4 := some a) ?_
      have naq : qo ≠ a := xw_neC e2 e1 (by simp)
      have e4 := (f2 _ naq).trans e2
      have rr : FrO [a, qo] h h2 := fr.up (by simp) f2
      exact ⟨some a, p, nn + 1, n, rfl, Nat.le_refl _, Nat.le_succ _, Nat.le_refl _, fun b z => ⟨nn, Nat.lt_succ_self _, by rw [← z]; exact ha⟩, (K.nd1 (l := some a1) (r := some a2) A rr hn ha g2 e4 (Or.inr ⟨hx0, i1, i2, by omega, by omega, hf1.symm, hf2.symm⟩)).s, rr.mono (suC (A.2.2.1 nn a hn ha) (suC A.1.1 suN))⟩
  · refine s_Question_join_7 ?_
    refine x_callV (As := [.int 6]) (b := qo) (rest := []) (F1 := 2) (L1 := 40) (mc := 0) (ms := 0) d_Question_join_13 cV_Question_156 (g_newNode K (by omega) (by omega)) e_qo ⟨by decide, rfl⟩ ⟨by omega, by show 8 + (3 + 11) + 40 ≤ _; omega⟩ ⟨by omega, by omega⟩ (Nat.le_of_ble_eq_true rfl) (fun v h1 q => ?_)
    rcases q with ⟨rfl, ⟨wp2, K2⟩, fr⟩ | ⟨a, l, r, y1, y2, z1, z2, z3, z4, rfl, hn, ha, e1, e2, fr⟩
    · refine s_Question_join_16 (s0 := none) (fun _ => ?_) (fun a z => nomatch z)
      refine s_Question_join_35 (r4 := none) ?_
      exact ⟨none, p, nn, n, rfl, Nat.le_refl _, Nat.le_refl _, Nat.le_refl _, (fun a z => nomatch z), K2.s, fr.mono (suC A.1.1 suN)⟩
    · refine s_Question_join_16 (s0 := some a) (fun z => nomatch z) (fun a9 z => ?_)
      refine s_Question_join_23 (left_a4 := l) (right_a4 := r) e1 ?_
      rw [xw_up_up]
      refine x_u1 (fun h2 g2 f2 => ?_)
      refine s_Question_join_35 (r4 := some a) ?_
      have naq : qo ≠ a := xw_neC e2 e1 (by simp)
      have e4 := (f2 _ naq).trans e2
      have rr : FrO [a, qo] h h2 := fr.up (by simp) f2
      exact ⟨some a, p, nn + 1, n, rfl, Nat.le_refl _, Nat.le_succ _, Nat.le_refl _, fun b z => ⟨nn, Nat.lt_succ_self _, by rw [← z]; exact ha⟩, (K.nd1 (l := some a1) (r := some a2) A rr hn ha g2 e4 (Or.inr ⟨by decide, i1, i2, by omega, by omega, hf1.symm, hf2.symm⟩)).s, rr.mono (suC (A.2.2.1 nn a hn ha) (suC A.1.1 suN))⟩
