set_option maxHeartbeats 400000 in
theorem f_spells2 {G : xw_G} {F L : Nat} {h : xw_A} {x y asz : Nat} {a b : Int32} {fa : Nat → Int32} {asked_ : Nat} {m : Nat} {fs : List Value} (l : fs.length = 62) (e : h m = some (.inr (11, fs))) (g_from : fs[(30 : Nat)]? = some (.int (nI x))) (g_to : fs[(31 : Nat)]? = some (.int (nI y))) (g_askedSize : fs[(11 : Nat)]? = some (.int (nI asz))) (g_asked : fs[(4 : Nat)]? = some (.ref asked_)) (e_asked : h asked_ = some (.inl (0, 96, .inl (fa)))) (hx : x < 900) (hasz : asz ≤ 96) (hxy : x ≤ y) (hya : y ≤ asz) (hF : 2 ≤ F) (hL : 41 ≤ L) :
    xw_Met G m_Model_spells F L 0 0 [.ref m, .int a, .int b, .int 0, .int 0] h (fun v h' => (∃ y9 : Int32, v = some (.int y9) ∧ ((y9 = 0 ∧ ¬ isN fa x y [a, b]) ∨ (y9 = 1 ∧ isN fa x y [a, b]))) ∧ h = h') (fun _ _ => False) := by
  refine xw_Met.of rfl (by decide) (Nat.le_of_ble_eq_true rfl) ?_
  refine s_Model_spells_0 (fun z_1 => ?_) (fun z => absurd z (by decide))
  refine s_Model_spells_9 (fun z_2 => ?_) (fun z => absurd z (by decide))
  refine s_Model_spells_17 ?_
  refine s_Model_spells_18 l e g_to g_from (fun z_3 => ?_) (fun z_4 => ?_)
  · skip
    refine s_Model_spells_105 ?_
    refine s_Model_spells_106 rfl ?_
    exact ⟨⟨_, rfl, Or.inl ⟨rfl, fun q => z_3 (by have q1 : y = x + 2 := q.1; rw [pk_sub hxy, show y - x = 2 by omega]; rfl)⟩⟩, rfl⟩
  · skip
    refine s_Model_spells_34 l e g_from ?_
    refine x_callV (As := [.int (nI x)]) (b := m) (rest := []) (F1 := 1) (L1 := 20) (mc := 0) (ms := 0) d_Model_spells_39 cV_Model_221 (f_q (x := x) l e g_askedSize g_asked e_asked (by omega) (by omega) (by omega) (by omega)) e ⟨by decide, rfl⟩ ⟨by omega, by show 8 + (2 + 11) + 20 ≤ _; omega⟩ ⟨by omega, by omega⟩ (Nat.le_of_ble_eq_true rfl) (fun v_6 h_5 p_7 => ?_)
    obtain ⟨rfl, rfl⟩ := p_7
    refine s_Model_spells_42 (fun z_8 => ?_) (fun z_9 => ?_)
    · skip
      refine s_Model_spells_105 ?_
      refine s_Model_spells_106 rfl ?_
      exact ⟨⟨_, rfl, Or.inl ⟨rfl, fun q => z_8 (by have q1 : y = x + 2 := q.1; rw [qv_in (by omega)]; exact q.2 0 _ rfl)⟩⟩, rfl⟩
    · skip
      refine s_Model_spells_46 l e g_from ?_
      rw [show (nI x) + 1 = nI (x + 1) from nI_1 _]
      refine x_callV (As := [.int (nI (x + 1))]) (b := m) (rest := []) (F1 := 1) (L1 := 20) (mc := 0) (ms := 0) d_Model_spells_53 cV_Model_221 (f_q (x := x + 1) l e g_askedSize g_asked e_asked (by omega) (by omega) (by omega) (by omega)) e ⟨by decide, rfl⟩ ⟨by omega, by show 8 + (2 + 11) + 20 ≤ _; omega⟩ ⟨by omega, by omega⟩ (Nat.le_of_ble_eq_true rfl) (fun v_11 h_10 p_12 => ?_)
      obtain ⟨rfl, rfl⟩ := p_12
      refine s_Model_spells_56 (fun z_13 => ?_) (fun z_14 => ?_)
      · skip
        refine s_Model_spells_105 ?_
        refine s_Model_spells_106 rfl ?_
        exact ⟨⟨_, rfl, Or.inl ⟨rfl, fun q => z_13 (by have q1 : y = x + 2 := q.1; rw [qv_in (by omega)]; exact q.2 1 _ rfl)⟩⟩, rfl⟩
      · skip
        refine s_Model_spells_60 (fun z_15 => ?_) (fun z => absurd z (by decide))
        refine s_Model_spells_80 (fun z_16 => ?_) (fun z => absurd z (by decide))
        refine s_Model_spells_101 ?_
        refine s_Model_spells_106 rfl ?_
        have hlen : y = x + 2 := by rw [pk_sub hxy] at z_4; have := (nI_eq (b := 2) (by omega) (by decide)).mp z_4; omega
        have hq0 : fa (x + 0) = a := by have q := z_9; rw [qv_in (by omega)] at q; exact q
        have hq1 : fa (x + 1) = b := by have q := z_14; rw [qv_in (by omega)] at q; exact q
        exact ⟨⟨_, rfl, Or.inr ⟨rfl, hlen, fun i v9 hv => by match i, hv with | 0, hv => (have e9 : a = v9 := Option.some.inj hv; rw [← e9]; exact hq0) | 1, hv => (have e9 : b = v9 := Option.some.inj hv; rw [← e9]; exact hq1) | i + 2, hv => exact absurd hv (by simp)⟩⟩, rfl⟩
set_option maxHeartbeats 400000 in
theorem f_spells3 {G : xw_G} {F L : Nat} {h : xw_A} {x y asz : Nat} {a b c : Int32} {fa : Nat → Int32} {asked_ : Nat} {m : Nat} {fs : List Value} (l : fs.length = 62) (e : h m = some (.inr (11, fs))) (g_from : fs[(30 : Nat)]? = some (.int (nI x))) (g_to : fs[(31 : Nat)]? = some (.int (nI y))) (g_askedSize : fs[(11 : Nat)]? = some (.int (nI asz))) (g_asked : fs[(4 : Nat)]? = some (.ref asked_)) (e_asked : h asked_ = some (.inl (0, 96, .inl (fa)))) (hx : x < 900) (hasz : asz ≤ 96) (hxy : x ≤ y) (hya : y ≤ asz) (hc0 : ¬ c ≤ 0) (hF : 2 ≤ F) (hL : 41 ≤ L) :
    xw_Met G m_Model_spells F L 0 0 [.ref m, .int a, .int b, .int c, .int 0] h (fun v h' => (∃ y9 : Int32, v = some (.int y9) ∧ ((y9 = 0 ∧ ¬ isN fa x y [a, b, c]) ∨ (y9 = 1 ∧ isN fa x y [a, b, c]))) ∧ h = h') (fun _ _ => False) := by
  refine xw_Met.of rfl (by decide) (Nat.le_of_ble_eq_true rfl) ?_
  refine s_Model_spells_0 (fun z_1 => ?_) (fun z => absurd z (by decide))
  refine s_Model_spells_9 (fun z => absurd z hc0) (fun z_2 => ?_)
  refine s_Model_spells_13 ?_
  refine s_Model_spells_18 l e g_to g_from (fun z_3 => ?_) (fun z_4 => ?_)
  · skip
    refine s_Model_spells_105 ?_
    refine s_Model_spells_106 rfl ?_
    exact ⟨⟨_, rfl, Or.inl ⟨rfl, fun q => z_3 (by have q1 : y = x + 3 := q.1; rw [pk_sub hxy, show y - x = 3 by omega]; rfl)⟩⟩, rfl⟩
  · skip
    refine s_Model_spells_34 l e g_from ?_
    refine x_callV (As := [.int (nI x)]) (b := m) (rest := []) (F1 := 1) (L1 := 20) (mc := 0) (ms := 0) d_Model_spells_39 cV_Model_221 (f_q (x := x) l e g_askedSize g_asked e_asked (by omega) (by omega) (by omega) (by omega)) e ⟨by decide, rfl⟩ ⟨by omega, by show 8 + (2 + 11) + 20 ≤ _; omega⟩ ⟨by omega, by omega⟩ (Nat.le_of_ble_eq_true rfl) (fun v_6 h_5 p_7 => ?_)
    obtain ⟨rfl, rfl⟩ := p_7
    refine s_Model_spells_42 (fun z_8 => ?_) (fun z_9 => ?_)
    · skip
      refine s_Model_spells_105 ?_
      refine s_Model_spells_106 rfl ?_
      exact ⟨⟨_, rfl, Or.inl ⟨rfl, fun q => z_8 (by have q1 : y = x + 3 := q.1; rw [qv_in (by omega)]; exact q.2 0 _ rfl)⟩⟩, rfl⟩
    · skip
      refine s_Model_spells_46 l e g_from ?_
      rw [show (nI x) + 1 = nI (x + 1) from nI_1 _]
      refine x_callV (As := [.int (nI (x + 1))]) (b := m) (rest := []) (F1 := 1) (L1 := 20) (mc := 0) (ms := 0) d_Model_spells_53 cV_Model_221 (f_q (x := x + 1) l e g_askedSize g_asked e_asked (by omega) (by omega) (by omega) (by omega)) e ⟨by decide, rfl⟩ ⟨by omega, by show 8 + (2 + 11) + 20 ≤ _; omega⟩ ⟨by omega, by omega⟩ (Nat.le_of_ble_eq_true rfl) (fun v_11 h_10 p_12 => ?_)
      obtain ⟨rfl, rfl⟩ := p_12
      refine s_Model_spells_56 (fun z_13 => ?_) (fun z_14 => ?_)
      · skip
        refine s_Model_spells_105 ?_
        refine s_Model_spells_106 rfl ?_
        exact ⟨⟨_, rfl, Or.inl ⟨rfl, fun q => z_13 (by have q1 : y = x + 3 := q.1; rw [qv_in (by omega)]; exact q.2 1 _ rfl)⟩⟩, rfl⟩
      · skip
        refine s_Model_spells_60 (fun z => absurd z (by decide)) (fun z_15 => ?_)
        refine s_Model_spells_66 l e g_from ?_
        rw [show (nI x) + 2 = nI (x + 2) from nI_2 _]
        refine x_callV (As := [.int (nI (x + 2))]) (b := m) (rest := []) (F1 := 1) (L1 := 20) (mc := 0) (ms := 0) d_Model_spells_73 cV_Model_221 (f_q (x := x + 2) l e g_askedSize g_asked e_asked (by omega) (by omega) (by omega) (by omega)) e ⟨by decide, rfl⟩ ⟨by omega, by show 8 + (2 + 11) + 20 ≤ _; omega⟩ ⟨by omega, by omega⟩ (Nat.le_of_ble_eq_true rfl) (fun v_17 h_16 p_18 => ?_)
        obtain ⟨rfl, rfl⟩ := p_18
        refine s_Model_spells_76 (fun z_19 => ?_) (fun z_20 => ?_)
        · skip
          refine s_Model_spells_105 ?_
          refine s_Model_spells_106 rfl ?_
          exact ⟨⟨_, rfl, Or.inl ⟨rfl, fun q => z_19 (by have q1 : y = x + 3 := q.1; rw [qv_in (by omega)]; exact q.2 2 _ rfl)⟩⟩, rfl⟩
        · skip
          refine s_Model_spells_80 (fun z_21 => ?_) (fun z => absurd z (by decide))
          refine s_Model_spells_101 ?_
          refine s_Model_spells_106 rfl ?_
          have hlen : y = x + 3 := by rw [pk_sub hxy] at z_4; have := (nI_eq (b := 3) (by omega) (by decide)).mp z_4; omega
          have hq0 : fa (x + 0) = a := by have q := z_9; rw [qv_in (by omega)] at q; exact q
          have hq1 : fa (x + 1) = b := by have q := z_14; rw [qv_in (by omega)] at q; exact q
          have hq2 : fa (x + 2) = c := by have q := z_20; rw [qv_in (by omega)] at q; exact q
          exact ⟨⟨_, rfl, Or.inr ⟨rfl, hlen, fun i v9 hv => by match i, hv with | 0, hv => (have e9 : a = v9 := Option.some.inj hv; rw [← e9]; exact hq0) | 1, hv => (have e9 : b = v9 := Option.some.inj hv; rw [← e9]; exact hq1) | 2, hv => (have e9 : c = v9 := Option.some.inj hv; rw [← e9]; exact hq2) | i + 3, hv => exact absurd hv (by simp)⟩⟩, rfl⟩
set_option maxHeartbeats 400000 in
theorem f_spells4 {G : xw_G} {F L : Nat} {h : xw_A} {x y asz : Nat} {a b c d : Int32} {fa : Nat → Int32} {asked_ : Nat} {m : Nat} {fs : List Value} (l : fs.length = 62) (e : h m = some (.inr (11, fs))) (g_from : fs[(30 : Nat)]? = some (.int (nI x))) (g_to : fs[(31 : Nat)]? = some (.int (nI y))) (g_askedSize : fs[(11 : Nat)]? = some (.int (nI asz))) (g_asked : fs[(4 : Nat)]? = some (.ref asked_)) (e_asked : h asked_ = some (.inl (0, 96, .inl (fa)))) (hx : x < 900) (hasz : asz ≤ 96) (hxy : x ≤ y) (hya : y ≤ asz) (hd0 : ¬ d ≤ 0) (hF : 2 ≤ F) (hL : 41 ≤ L) :
    xw_Met G m_Model_spells F L 0 0 [.ref m, .int a, .int b, .int c, .int d] h (fun v h' => (∃ y9 : Int32, v = some (.int y9) ∧ ((y9 = 0 ∧ ¬ isN fa x y [a, b, c, d]) ∨ (y9 = 1 ∧ isN fa x y [a, b, c, d]))) ∧ h = h') (fun _ _ => False) := by
  refine xw_Met.of rfl (by decide) (Nat.le_of_ble_eq_true rfl) ?_
  refine s_Model_spells_0 (fun z => absurd z hd0) (fun z_1 => ?_)
  refine s_Model_spells_5 ?_
  refine s_Model_spells_18 l e g_to g_from (fun z_2 => ?_) (fun z_3 => ?_)
  · skip
    refine s_Model_spells_105 ?_
    refine s_Model_spells_106 rfl ?_
    exact ⟨⟨_, rfl, Or.inl ⟨rfl, fun q => z_2 (by have q1 : y = x + 4 := q.1; rw [pk_sub hxy, show y - x = 4 by omega]; rfl)⟩⟩, rfl⟩
  · skip
    refine s_Model_spells_34 l e g_from ?_
    refine x_callV (As := [.int (nI x)]) (b := m) (rest := []) (F1 := 1) (L1 := 20) (mc := 0) (ms := 0) d_Model_spells_39 cV_Model_221 (f_q (x := x) l e g_askedSize g_asked e_asked (by omega) (by omega) (by omega) (by omega)) e ⟨by decide, rfl⟩ ⟨by omega, by show 8 + (2 + 11) + 20 ≤ _; omega⟩ ⟨by omega, by omega⟩ (Nat.le_of_ble_eq_true rfl) (fun v_5 h_4 p_6 => ?_)
    obtain ⟨rfl, rfl⟩ := p_6
    refine s_Model_spells_42 (fun z_7 => ?_) (fun z_8 => ?_)
    · skip
      refine s_Model_spells_105 ?_
      refine s_Model_spells_106 rfl ?_
      exact ⟨⟨_, rfl, Or.inl ⟨rfl, fun q => z_7 (by have q1 : y = x + 4 := q.1; rw [qv_in (by omega)]; exact q.2 0 _ rfl)⟩⟩, rfl⟩
    · skip
      refine s_Model_spells_46 l e g_from ?_
      rw [show (nI x) + 1 = nI (x + 1) from nI_1 _]
      refine x_callV (As := [.int (nI (x + 1))]) (b := m) (rest := []) (F1 := 1) (L1 := 20) (mc := 0) (ms := 0) d_Model_spells_53 cV_Model_221 (f_q (x := x + 1) l e g_askedSize g_asked e_asked (by omega) (by omega) (by omega) (by omega)) e ⟨by decide, rfl⟩ ⟨by omega, by show 8 + (2 + 11) + 20 ≤ _; omega⟩ ⟨by omega, by omega⟩ (Nat.le_of_ble_eq_true rfl) (fun v_10 h_9 p_11 => ?_)
      obtain ⟨rfl, rfl⟩ := p_11
      refine s_Model_spells_56 (fun z_12 => ?_) (fun z_13 => ?_)
      · skip
        refine s_Model_spells_105 ?_
        refine s_Model_spells_106 rfl ?_
        exact ⟨⟨_, rfl, Or.inl ⟨rfl, fun q => z_12 (by have q1 : y = x + 4 := q.1; rw [qv_in (by omega)]; exact q.2 1 _ rfl)⟩⟩, rfl⟩
      · skip
        refine s_Model_spells_60 (fun z => absurd z (by decide)) (fun z_14 => ?_)
        refine s_Model_spells_66 l e g_from ?_
        rw [show (nI x) + 2 = nI (x + 2) from nI_2 _]
        refine x_callV (As := [.int (nI (x + 2))]) (b := m) (rest := []) (F1 := 1) (L1 := 20) (mc := 0) (ms := 0) d_Model_spells_73 cV_Model_221 (f_q (x := x + 2) l e g_askedSize g_asked e_asked (by omega) (by omega) (by omega) (by omega)) e ⟨by decide, rfl⟩ ⟨by omega, by show 8 + (2 + 11) + 20 ≤ _; omega⟩ ⟨by omega, by omega⟩ (Nat.le_of_ble_eq_true rfl) (fun v_16 h_15 p_17 => ?_)
        obtain ⟨rfl, rfl⟩ := p_17
        refine s_Model_spells_76 (fun z_18 => ?_) (fun z_19 => ?_)
        · skip
          refine s_Model_spells_105 ?_
          refine s_Model_spells_106 rfl ?_
          exact ⟨⟨_, rfl, Or.inl ⟨rfl, fun q => z_18 (by have q1 : y = x + 4 := q.1; rw [qv_in (by omega)]; exact q.2 2 _ rfl)⟩⟩, rfl⟩
        · skip
          refine s_Model_spells_80 (fun z => absurd z (by decide)) (fun z_20 => ?_)
          refine s_Model_spells_86 l e g_from ?_
          rw [show (nI x) + 3 = nI (x + 3) from nI_3 _]
          refine x_callV (As := [.int (nI (x + 3))]) (b := m) (rest := []) (F1 := 1) (L1 := 20) (mc := 0) (ms := 0) d_Model_spells_93 cV_Model_221 (f_q (x := x + 3) l e g_askedSize g_asked e_asked (by omega) (by omega) (by omega) (by omega)) e ⟨by decide, rfl⟩ ⟨by omega, by show 8 + (2 + 11) + 20 ≤ _; omega⟩ ⟨by omega, by omega⟩ (Nat.le_of_ble_eq_true rfl) (fun v_22 h_21 p_23 => ?_)
          obtain ⟨rfl, rfl⟩ := p_23
          refine x_le (xw_le_n (xw_le_n (xw_le_n (xw_le_n (xw_le_s (xw_le_n xw_le_e)))))) ?_
          refine s_Model_spells_96 (fun z_24 => ?_) (fun z_25 => ?_)
          · skip
            refine s_Model_spells_105 ?_
            refine s_Model_spells_106 rfl ?_
            exact ⟨⟨_, rfl, Or.inl ⟨rfl, fun q => z_24 (by have q1 : y = x + 4 := q.1; rw [qv_in (by omega)]; exact q.2 3 _ rfl)⟩⟩, rfl⟩
          · skip
            refine s_Model_spells_101 ?_
            refine s_Model_spells_106 rfl ?_
            have hlen : y = x + 4 := by rw [pk_sub hxy] at z_3; have := (nI_eq (b := 4) (by omega) (by decide)).mp z_3; omega
            have hq0 : fa (x + 0) = a := by have q := z_8; rw [qv_in (by omega)] at q; exact q
            have hq1 : fa (x + 1) = b := by have q := z_13; rw [qv_in (by omega)] at q; exact q
            have hq2 : fa (x + 2) = c := by have q := z_19; rw [qv_in (by omega)] at q; exact q
            have hq3 : fa (x + 3) = d := by have q := z_25; rw [qv_in (by omega)] at q; exact q
            exact ⟨⟨_, rfl, Or.inr ⟨rfl, hlen, fun i v9 hv => by match i, hv with | 0, hv => (have e9 : a = v9 := Option.some.inj hv; rw [← e9]; exact hq0) | 1, hv => (have e9 : b = v9 := Option.some.inj hv; rw [← e9]; exact hq1) | 2, hv => (have e9 : c = v9 := Option.some.inj hv; rw [← e9]; exact hq2) | 3, hv => (have e9 : d = v9 := Option.some.inj hv; rw [← e9]; exact hq3) | i + 4, hv => exact absurd hv (by simp)⟩⟩, rfl⟩
set_option maxHeartbeats 2000000 in
theorem lp_pt1H {G : xw_G} {F L bc bs : Nat} {pr : Option Value → xw_A → Prop} {px : String → xw_A → Prop} {m asked_ asz x0 : Nat} {gs : List Value} {fa : Nat → Int32} {h0 : xw_A} (q_asked : gs[(4 : Nat)]? = some (.ref asked_)) (q_askedSize : gs[(11 : Nat)]? = some (.int (nI asz))) (q_a : h0 asked_ = some (.inl (0, 96, .inl fa))) (q_m : ∃ f, h0 m = some (.inr (11, f))) (hasz : asz ≤ 96) (hF : 2 ≤ F) (hL : 41 ≤ L) (kk : ∀ (h : xw_A) (i : Nat) (fs : List Value), i < 98 → x0 ≤ i → fs.length = 62 → h m = some (.inr (11, fs)) → fs[(28 : Nat)]? = some (.int (nI i)) → (∀ i : Nat, i ∉ [28] → fs[i]? = gs[i]?) → FrO [m] h0 h → i = bl fa asz x0 → xw G m_Model_part F L bc bs pr px 26 [some (.ref m), none] [] h) :
    ∀ (dd i : Nat) (h : xw_A) (fs : List Value), 98 ≤ i + dd → i < 98 → fs.length = 62 → h m = some (.inr (11, fs)) → fs[(28 : Nat)]? = some (.int (nI i)) → (∀ i : Nat, i ∉ [28] → fs[i]? = gs[i]?) → FrO [m] h0 h → (x0 ≤ i ∧ bl fa asz x0 = bl fa asz i) → xw G m_Model_part F L bc bs pr px 0 [some (.ref m), none] [] h := by
  intro dd
  induction dd with
  | zero =>
    intro i h fs hi hb l e g_k ga0 r0 hx0
    exact absurd hi (by omega)
  | succ dd ih =>
    intro i h fs hi hb l e g_k ga0 r0 hx0
    have g_asked := (ga0 4 (by decide)).trans q_asked
    have g_askedSize := (ga0 11 (by decide)).trans q_askedSize
    have e_asked := r0 asked_ _ (by obtain ⟨f, o⟩ := q_m; simp only [List.mem_cons, List.not_mem_nil, or_false, not_or]; exact xw_neC q_a o (by simp)) q_a
    refine s_Model_part_0 l e g_k ?_
    refine x_callV (As := [.int (nI i)]) (b := m) (rest := []) (F1 := 1) (L1 := 20) (mc := 0) (ms := 0) d_Model_part_5 cV_Model_221 (f_q (x := i) l e g_askedSize g_asked e_asked (by omega) (by omega) (by omega) (by omega)) e ⟨by decide, rfl⟩ ⟨by omega, by show 8 + (2 + 11) + 20 ≤ _; omega⟩ ⟨by omega, by omega⟩ (Nat.le_of_ble_eq_true rfl) (fun v_2 h_1 p_3 => ?_)
    obtain ⟨rfl, rfl⟩ := p_3
    refine s_Model_part_8 (fun z_4 => ?_) (fun z_5 => ?_)
    · skip
      exact kk _ _ _ hb hx0.1 l e g_k ga0 r0 (by rw [hx0.2, blkE_stop (fun q => z_4 ((qv_c (by decide)).mpr q))])
    · skip
      refine s_Model_part_13 l e g_k ?_
      refine x_u1 (fun h_6 e_7 f_8 => ?_)
      have e_9 := (f_8 asked_ (xw_neC e_asked e (by simp))).trans e_asked
      have r_10 := r0.up (by simp) f_8
      obtain ⟨fs_11, z_12⟩ : ∃ z, z = fs.set 28 (.int ((nI i) + 1)) := ⟨_, rfl⟩
      rw [← z_12] at e_7
      have l_13 : fs_11.length = 62 := by rw [z_12]; simp only [List.length_set]; exact l
      have g_14 : fs_11[(4 : Nat)]? = some (.ref asked_) := by rw [z_12]; exact (xw_gn (by decide) g_asked)
      have g_15 : fs_11[(11 : Nat)]? = some (.int (nI asz)) := by rw [z_12]; exact (xw_gn (by decide) g_askedSize)
      have g_16 : fs_11[(28 : Nat)]? = some (.int ((nI i) + 1)) := by rw [z_12]; exact (xw_gs (by simp [l]))
      have ga_17 : ∀ i : Nat, i ∉ [28] → fs_11[i]? = gs[i]? := fun i hi => by rw [z_12]; exact xw_gn (fun z => hi (by rw [z]; simp)) (ga0 i hi)
      clear z_12
      rw [nI_1] at g_16
      have hq9 := (qv_c (by decide)).mp z_5
      exact ih (i + 1) _ _ (by omega) (by omega) l_13 e_7 g_16 ga_17 r_10 ⟨by omega, hx0.2.trans (blkE_step hq9)⟩
set_option maxHeartbeats 2000000 in
theorem lp_pt2H {G : xw_G} {F L bc bs : Nat} {pr : Option Value → xw_A → Prop} {px : String → xw_A → Prop} {m asked_ asz x0 : Nat} {gs : List Value} {fa : Nat → Int32} {h0 : xw_A} (q_asked : gs[(4 : Nat)]? = some (.ref asked_)) (q_askedSize : gs[(11 : Nat)]? = some (.int (nI asz))) (q_a : h0 asked_ = some (.inl (0, 96, .inl fa))) (q_m : ∃ f, h0 m = some (.inr (11, f))) (hasz : asz ≤ 96) (hF : 3 ≤ F) (hL : 62 ≤ L) (kk : ∀ (h : xw_A) (i : Nat) (fs : List Value), i < 98 → x0 ≤ i → fs.length = 62 → h m = some (.inr (11, fs)) → fs[(31 : Nat)]? = some (.int (nI i)) → (∀ i : Nat, i ∉ [31] → fs[i]? = gs[i]?) → FrO [m] h0 h → (i = wr fa asz x0 ∧ i ≤ asz) → xw G m_Model_part F L bc bs pr px 114 [some (.ref m), none] [] h) :
    ∀ (dd i : Nat) (h : xw_A) (fs : List Value), 98 ≤ i + dd → i < 98 → fs.length = 62 → h m = some (.inr (11, fs)) → fs[(31 : Nat)]? = some (.int (nI i)) → (∀ i : Nat, i ∉ [31] → fs[i]? = gs[i]?) → FrO [m] h0 h → (x0 ≤ i ∧ i ≤ asz ∧ wr fa asz x0 = wr fa asz i) → xw G m_Model_part F L bc bs pr px 87 [some (.ref m), none] [] h := by
  intro dd
  induction dd with
  | zero =>
    intro i h fs hi hb l e g_k ga0 r0 hx0
    exact absurd hi (by omega)
  | succ dd ih =>
    intro i h fs hi hb l e g_k ga0 r0 hx0
    have g_asked := (ga0 4 (by decide)).trans q_asked
    have g_askedSize := (ga0 11 (by decide)).trans q_askedSize
    have e_asked := r0 asked_ _ (by obtain ⟨f, o⟩ := q_m; simp only [List.mem_cons, List.not_mem_nil, or_false, not_or]; exact xw_neC q_a o (by simp)) q_a
    refine s_Model_part_87 l e g_k ?_
    refine x_callV (As := [.int (nI i)]) (b := m) (rest := []) (F1 := 1) (L1 := 20) (mc := 0) (ms := 0) d_Model_part_92 cV_Model_221 (f_q (x := i) l e g_askedSize g_asked e_asked (by omega) (by omega) (by omega) (by omega)) e ⟨by decide, rfl⟩ ⟨by omega, by show 8 + (2 + 11) + 20 ≤ _; omega⟩ ⟨by omega, by omega⟩ (Nat.le_of_ble_eq_true rfl) (fun v_2 h_1 p_3 => ?_)
    obtain ⟨rfl, rfl⟩ := p_3
    refine x_callS (As := [.int (qv fa asz i)]) (rest := []) (F1 := 2) (L1 := 42) (mc := 0) (ms := 0) d_Model_part_95 cS_Model_146 (f_isSign (by omega) (by omega)) ⟨by omega, by show 8 + (1 + 11) + 42 ≤ _; omega⟩ ⟨by omega, by omega⟩ (Nat.le_of_ble_eq_true rfl) (fun v_5 h_4 p_6 => ?_)
    obtain ⟨rfl, rfl⟩ := p_6
    refine s_Model_part_98 (fun z_7 => ?_) (fun z_8 => ?_)
    · skip
      exact kk _ _ _ hb hx0.1 l e g_k ga0 r0 ⟨by rw [hx0.2.2, wr_stop (fun q => by have q9 := qv_w.mpr q; rw [b01_f z_7] at q9; cases q9)], hx0.2.1⟩
    · skip
      refine s_Model_part_101 l e g_k ?_
      refine x_u1 (fun h_9 e_10 f_11 => ?_)
      have e_12 := (f_11 asked_ (xw_neC e_asked e (by simp))).trans e_asked
      have r_13 := r0.up (by simp) f_11
      obtain ⟨fs_14, z_15⟩ : ∃ z, z = fs.set 31 (.int ((nI i) + 1)) := ⟨_, rfl⟩
      rw [← z_15] at e_10
      have l_16 : fs_14.length = 62 := by rw [z_15]; simp only [List.length_set]; exact l
      have g_17 : fs_14[(4 : Nat)]? = some (.ref asked_) := by rw [z_15]; exact (xw_gn (by decide) g_asked)
      have g_18 : fs_14[(11 : Nat)]? = some (.int (nI asz)) := by rw [z_15]; exact (xw_gn (by decide) g_askedSize)
      have g_19 : fs_14[(31 : Nat)]? = some (.int ((nI i) + 1)) := by rw [z_15]; exact (xw_gs (by simp [l]))
      have ga_20 : ∀ i : Nat, i ∉ [31] → fs_14[i]? = gs[i]? := fun i hi => by rw [z_15]; exact xw_gn (fun z => hi (by rw [z]; simp)) (ga0 i hi)
      clear z_15
      rw [nI_1] at g_19
      have hq9 := qv_w.mp (b01_t z_8)
      exact ih (i + 1) _ _ (by omega) (by omega) l_16 e_10 g_19 ga_20 r_13 ⟨by omega, by omega, hx0.2.2.trans (wr_step hq9)⟩
set_option maxHeartbeats 2000000 in
theorem lp_pt3H {G : xw_G} {F L bc bs : Nat} {pr : Option Value → xw_A → Prop} {px : String → xw_A → Prop} {m asked_ asz x0 : Nat} {gs : List Value} {fa : Nat → Int32} {h0 : xw_A} (q_asked : gs[(4 : Nat)]? = some (.ref asked_)) (q_askedSize : gs[(11 : Nat)]? = some (.int (nI asz))) (q_a : h0 asked_ = some (.inl (0, 96, .inl fa))) (q_m : ∃ f, h0 m = some (.inr (11, f))) (hasz : asz ≤ 96) (hF : 2 ≤ F) (hL : 41 ≤ L) (kk : ∀ (h : xw_A) (i : Nat) (fs : List Value), i < 98 → x0 ≤ i → fs.length = 62 → h m = some (.inr (11, fs)) → fs[(31 : Nat)]? = some (.int (nI i)) → (∀ i : Nat, i ∉ [31] → fs[i]? = gs[i]?) → FrO [m] h0 h → (i = qu fa asz x0 ∧ i ≤ asz) → xw G m_Model_part F L bc bs pr px 241 [some (.ref m), none] [] h) :
    ∀ (dd i : Nat) (h : xw_A) (fs : List Value), 98 ≤ i + dd → i < 98 → fs.length = 62 → h m = some (.inr (11, fs)) → fs[(31 : Nat)]? = some (.int (nI i)) → (∀ i : Nat, i ∉ [31] → fs[i]? = gs[i]?) → FrO [m] h0 h → (x0 ≤ i ∧ i ≤ asz ∧ qu fa asz x0 = qu fa asz i) → xw G m_Model_part F L bc bs pr px 204 [some (.ref m), none] [] h := by
  intro dd
  induction dd with
  | zero =>
    intro i h fs hi hb l e g_k ga0 r0 hx0
    exact absurd hi (by omega)
  | succ dd ih =>
    intro i h fs hi hb l e g_k ga0 r0 hx0
    have g_asked := (ga0 4 (by decide)).trans q_asked
    have g_askedSize := (ga0 11 (by decide)).trans q_askedSize
    have e_asked := r0 asked_ _ (by obtain ⟨f, o⟩ := q_m; simp only [List.mem_cons, List.not_mem_nil, or_false, not_or]; exact xw_neC q_a o (by simp)) q_a
    refine s_Model_part_204 l e g_k g_askedSize (fun z_1 => ?_) (fun z_2 => ?_)
    · skip
      exact kk _ _ _ hb hx0.1 l e g_k ga0 r0 ⟨by rw [hx0.2.2, qu_stop (fun q => absurd z_1 (nI_ge (b := asz) q.1 (by omega)))], hx0.2.1⟩
    · skip
      refine s_Model_part_215 l e g_k ?_
      refine x_callV (As := [.int (nI i)]) (b := m) (rest := []) (F1 := 1) (L1 := 20) (mc := 0) (ms := 0) d_Model_part_220 cV_Model_221 (f_q (x := i) l e g_askedSize g_asked e_asked (by omega) (by omega) (by omega) (by omega)) e ⟨by decide, rfl⟩ ⟨by omega, by show 8 + (2 + 11) + 20 ≤ _; omega⟩ ⟨by omega, by omega⟩ (Nat.le_of_ble_eq_true rfl) (fun v_4 h_3 p_5 => ?_)
      obtain ⟨rfl, rfl⟩ := p_5
      refine s_Model_part_223 (fun z_6 => ?_) (fun z_7 => ?_)
      · skip
        exact kk _ _ _ hb hx0.1 l e g_k ga0 r0 ⟨by rw [hx0.2.2, qu_stop (fun q => q.2 ((qv_c (by decide)).mp z_6).2)], hx0.2.1⟩
      · skip
        refine s_Model_part_228 l e g_k ?_
        refine x_u1 (fun h_8 e_9 f_10 => ?_)
        have e_11 := (f_10 asked_ (xw_neC e_asked e (by simp))).trans e_asked
        have r_12 := r0.up (by simp) f_10
        obtain ⟨fs_13, z_14⟩ : ∃ z, z = fs.set 31 (.int ((nI i) + 1)) := ⟨_, rfl⟩
        rw [← z_14] at e_9
        have l_15 : fs_13.length = 62 := by rw [z_14]; simp only [List.length_set]; exact l
        have g_16 : fs_13[(4 : Nat)]? = some (.ref asked_) := by rw [z_14]; exact (xw_gn (by decide) g_asked)
        have g_17 : fs_13[(11 : Nat)]? = some (.int (nI asz)) := by rw [z_14]; exact (xw_gn (by decide) g_askedSize)
        have g_18 : fs_13[(31 : Nat)]? = some (.int ((nI i) + 1)) := by rw [z_14]; exact (xw_gs (by simp [l]))
        have ga_19 : ∀ i : Nat, i ∉ [31] → fs_13[i]? = gs[i]? := fun i hi => by rw [z_14]; exact xw_gn (fun z => hi (by rw [z]; simp)) (ga0 i hi)
        clear z_14
        rw [nI_1] at g_18
        have hlt : i < asz := Nat.lt_of_not_le (fun q => z_2 (nI_le q (by omega)))
        exact ih (i + 1) _ _ (by omega) (by omega) l_15 e_9 g_18 ga_19 r_12 ⟨by omega, by omega, hx0.2.2.trans (qu_step ⟨hlt, fun q => z_7 (by rw [qv_in hlt]; exact q)⟩)⟩
set_option maxHeartbeats 8000000 in
theorem f_partH {G : xw_G} {F L : Nat} {h : xw_A} {x0 asz : Nat} {k0 f0 t0 : Int32} {fa : Nat → Int32} {asked_ : Nat} {m : Nat} {fs : List Value} (l : fs.length = 62) (e : h m = some (.inr (11, fs))) (g_at : fs[(28 : Nat)]? = some (.int (nI x0))) (g_kind : fs[(29 : Nat)]? = some (.int k0)) (g_from : fs[(30 : Nat)]? = some (.int f0)) (g_to : fs[(31 : Nat)]? = some (.int t0)) (g_askedSize : fs[(11 : Nat)]? = some (.int (nI asz))) (g_asked : fs[(4 : Nat)]? = some (.ref asked_)) (e_asked : h asked_ = some (.inl (0, 96, .inl (fa)))) (hx0 : x0 ≤ 97) (hasz : asz ≤ 96) (hF : 3 ≤ F) (hL : 66 ≤ L) :
    xw_Met G m_Model_part F L 0 0 [.ref m] h (fun v h' => v = none ∧ ∃ (y : Nat) (fs' : List Value), PtO fa asz (bl fa asz x0) y (nI (rkd (kdP fa asz x0))) ∧ (¬ kdP fa asz x0 = 1 → y = skP fa asz x0) ∧ fs'.length = 62 ∧ h' m = some (.inr (11, fs')) ∧ fs'[(28 : Nat)]? = some (.int (nI (bl fa asz x0))) ∧ fs'[(29 : Nat)]? = some (.int (nI (rkd (kdP fa asz x0)))) ∧ fs'[(30 : Nat)]? = some (.int (nI (bl fa asz x0))) ∧ fs'[(31 : Nat)]? = some (.int (nI y)) ∧ (∀ i : Nat, i ∉ [28, 29, 30, 31] → fs'[i]? = fs[i]?) ∧ FrO [m] h h') (fun _ _ => False) := by
  refine xw_Met.of rfl (by decide) (Nat.le_of_ble_eq_true rfl) ?_
  have ga0 : ∀ i : Nat, i ∉ [28, 29, 30, 31] → fs[i]? = fs[i]? := fun _ _ => rfl
  have r0 : FrO [m] h h := FrO.rf
  refine lp_pt1H (gs := fs) (h0 := h) (x0 := x0) g_asked g_askedSize e_asked ⟨_, e⟩ hasz (by omega) (by omega) (fun h_1 x_2 fs_3 hb_4 hx_5 l_6 e_7 g_8 ga_9 fr_10 hm_11 => ?_) 98 (x0) _ _ (by omega) (by omega) l e g_at (fun _ _ => rfl) FrO.rf ⟨Nat.le_refl _, rfl⟩
  have e_12 := fr_10 asked_ _ (by simp only [List.mem_cons, List.not_mem_nil, or_false, not_or]; exact (xw_neC e_asked e (by simp))) e_asked
  have r_13 := r0.trans (fr_10.mono (by simp))
  have g_14 : fs_3[(29 : Nat)]? = some (.int k0) := (ga_9 29 (by decide)).trans g_kind
  have g_15 : fs_3[(30 : Nat)]? = some (.int f0) := (ga_9 30 (by decide)).trans g_from
  have g_16 : fs_3[(31 : Nat)]? = some (.int t0) := (ga_9 31 (by decide)).trans g_to
  have g_17 : fs_3[(11 : Nat)]? = some (.int (nI asz)) := (ga_9 11 (by decide)).trans g_askedSize
  have g_18 : fs_3[(4 : Nat)]? = some (.ref asked_) := (ga_9 4 (by decide)).trans g_asked
  have ga_19 : ∀ i : Nat, i ∉ [28, 29, 30, 31] → fs_3[i]? = fs[i]? := fun i hi => (ga_9 i (fun z => hi (by simp only [List.mem_cons, List.not_mem_nil, or_false] at z ⊢; omega))).trans (ga0 i hi)
  refine s_Model_part_26 l_6 e_7 g_8 ?_
  rw [xw_up_up]
  refine x_u1 (fun h_20 e_21 f_22 => ?_)
  have e_23 := (f_22 asked_ (xw_neC e_12 e_7 (by simp))).trans e_12
  have r_24 := r_13.up (by simp) f_22
  obtain ⟨fs_25, z_26⟩ : ∃ z, z = (fs_3.set 30 (.int (nI x_2))).set 31 (.int ((nI x_2) + 1)) := ⟨_, rfl⟩
  rw [← z_26] at e_21
  have l_27 : fs_25.length = 62 := by rw [z_26]; simp only [List.length_set]; exact l_6
  have g_28 : fs_25[(4 : Nat)]? = some (.ref asked_) := by rw [z_26]; exact (xw_gn (by decide) (xw_gn (by decide) g_18))
  have g_29 : fs_25[(11 : Nat)]? = some (.int (nI asz)) := by rw [z_26]; exact (xw_gn (by decide) (xw_gn (by decide) g_17))
  have g_30 : fs_25[(28 : Nat)]? = some (.int (nI x_2)) := by rw [z_26]; exact (xw_gn (by decide) (xw_gn (by decide) g_8))
  have g_31 : fs_25[(29 : Nat)]? = some (.int k0) := by rw [z_26]; exact (xw_gn (by decide) (xw_gn (by decide) g_14))
  have g_32 : fs_25[(30 : Nat)]? = some (.int (nI x_2)) := by rw [z_26]; exact (xw_gn (by decide) (xw_gs (by simp [l_6])))
  have g_33 : fs_25[(31 : Nat)]? = some (.int ((nI x_2) + 1)) := by rw [z_26]; exact (xw_gs (by simp [l_6]))
  have ga_34 : ∀ i : Nat, i ∉ [28, 29, 30, 31] → fs_25[i]? = fs[i]? := fun i hi => by rw [z_26]; exact xw_gn (fun z => hi (by rw [z]; simp)) (xw_gn (fun z => hi (by rw [z]; simp)) (ga_19 i hi))
  clear z_26
  refine x_callV (As := [.int (nI x_2)]) (b := m) (rest := []) (F1 := 1) (L1 := 20) (mc := 0) (ms := 0) d_Model_part_49 cV_Model_221 (f_q (x := x_2) l_27 e_21 g_29 g_28 e_23 (by omega) (by omega) (by omega) (by omega)) e_21 ⟨by decide, rfl⟩ ⟨by omega, by show 8 + (2 + 11) + 20 ≤ _; omega⟩ ⟨by omega, by omega⟩ (Nat.le_of_ble_eq_true rfl) (fun v_36 h_35 p_37 => ?_)
  obtain ⟨rfl, rfl⟩ := p_37
  rw [nI_1] at g_33
  refine s_Model_part_52 l_27 e_21 g_30 g_29 (fun z_38 => ?_) (fun z_39 => ?_)
  · skip
    have hxa : x_2 < asz := (nI_ltI (by omega) (by omega)).mp z_38
    refine s_Model_part_80 ?_
    refine x_callS (As := [.int (qv fa asz x_2)]) (rest := []) (F1 := 2) (L1 := 42) (mc := 0) (ms := 0) d_Model_part_81 cS_Model_146 (f_isSign (by omega) (by omega)) ⟨by omega, by show 8 + (1 + 11) + 42 ≤ _; omega⟩ ⟨by omega, by omega⟩ (Nat.le_of_ble_eq_true rfl) (fun v_41 h_40 p_42 => ?_)
    obtain ⟨rfl, rfl⟩ := p_42
    refine s_Model_part_84 (fun z_43 => ?_) (fun z_44 => ?_)
    · skip
      refine s_Model_part_198 (fun z_45 => ?_) (fun z_46 => ?_)
      · skip
        refine s_Model_part_275 (fun z_47 => ?_) (fun z_48 => ?_)
        · skip
          refine s_Model_part_286 (fun z_49 => ?_) (fun z_50 => ?_)
          · skip
            refine s_Model_part_296 (fun z_51 => ?_) (fun z_52 => ?_)
            · skip
              refine s_Model_part_306 (fun z_53 => ?_) (fun z_54 => ?_)
              · skip
                refine s_Model_part_317 (fun z_55 => ?_) (fun z_56 => ?_)
                · skip
                  refine s_Model_part_328 (fun z_57 => ?_) (fun z_58 => ?_)
                  · skip
                    refine s_Model_part_339 (fun z_59 => ?_) (fun z_60 => ?_)
                    · skip
                      refine s_Model_part_350 (fun z_61 => ?_) (fun z_62 => ?_)
                      · skip
                        refine s_Model_part_361 ?_
                        refine s_Model_part_363 l_27 e_21 ?_
                        refine x_u1 (fun h_63 e_64 f_65 => ?_)
                        have e_66 := (f_65 asked_ (xw_neC e_23 e_21 (by simp))).trans e_23
                        have r_67 := r_24.up (by simp) f_65
                        obtain ⟨fs_68, z_69⟩ : ∃ z, z = fs_25.set 29 (.int 15) := ⟨_, rfl⟩
                        rw [← z_69] at e_64
                        have l_70 : fs_68.length = 62 := by rw [z_69]; simp only [List.length_set]; exact l_27
                        have g_71 : fs_68[(4 : Nat)]? = some (.ref asked_) := by rw [z_69]; exact (xw_gn (by decide) g_28)
                        have g_72 : fs_68[(11 : Nat)]? = some (.int (nI asz)) := by rw [z_69]; exact (xw_gn (by decide) g_29)
                        have g_73 : fs_68[(28 : Nat)]? = some (.int (nI x_2)) := by rw [z_69]; exact (xw_gn (by decide) g_30)
                        have g_74 : fs_68[(29 : Nat)]? = some (.int 15) := by rw [z_69]; exact (xw_gs (by simp [l_27]))
                        have g_75 : fs_68[(30 : Nat)]? = some (.int (nI x_2)) := by rw [z_69]; exact (xw_gn (by decide) g_32)
                        have g_76 : fs_68[(31 : Nat)]? = some (.int (nI (x_2 + 1))) := by rw [z_69]; exact (xw_gn (by decide) g_33)
                        have ga_77 : ∀ i : Nat, i ∉ [28, 29, 30, 31] → fs_68[i]? = fs[i]? := fun i hi => by rw [z_69]; exact xw_gn (fun z => hi (by rw [z]; simp)) (ga_34 i hi)
                        clear z_69
                        refine s_Model_part_366 ?_
                        have hnw : ¬ isW (fa x_2) = true := fun q => by have q9 := qv_w.mpr ⟨hxa, q⟩; rw [b01_f z_43] at q9; cases q9
                        rw [qv_in hxa] at z_45
                        rw [qv_in hxa] at z_47
                        rw [qv_in hxa] at z_49
                        rw [qv_in hxa] at z_51
                        rw [qv_in hxa] at z_53
                        rw [qv_in hxa] at z_55
                        rw [qv_in hxa] at z_57
                        rw [qv_in hxa] at z_59
                        rw [qv_in hxa] at z_61
                        have hlx := lexK_s hxa hnw z_45
                        rw [sgn_no z_47 z_49 z_51 z_53 z_55 z_57 z_59 z_61] at hlx
                        subst hm_11
                        have hk9 := kdP_eq hlx
                        have hrk9 : nI (rkd (kdP fa asz x0)) = 15 := by rw [hk9.1]; rfl
                        refine ⟨rfl, ((bl fa asz x0) + 1), _, ?_, (fun _ => hk9.2.symm), l_70, e_64, g_73, ?_, g_75, g_76, ga_77, r_67⟩
                        · rw [hrk9]; exact ⟨by omega, by omega, fun _ => by omega, fun q => absurd q (by decide), fun q => absurd q (by decide)⟩
                        · rw [hrk9]; exact g_74
                      · skip
                        refine s_Model_part_356 ?_
                        refine s_Model_part_363 l_27 e_21 ?_
                        refine x_u1 (fun h_78 e_79 f_80 => ?_)
                        have e_81 := (f_80 asked_ (xw_neC e_23 e_21 (by simp))).trans e_23
                        have r_82 := r_24.up (by simp) f_80
                        obtain ⟨fs_83, z_84⟩ : ∃ z, z = fs_25.set 29 (.int 10) := ⟨_, rfl⟩
                        rw [← z_84] at e_79
                        have l_85 : fs_83.length = 62 := by rw [z_84]; simp only [List.length_set]; exact l_27
                        have g_86 : fs_83[(4 : Nat)]? = some (.ref asked_) := by rw [z_84]; exact (xw_gn (by decide) g_28)
                        have g_87 : fs_83[(11 : Nat)]? = some (.int (nI asz)) := by rw [z_84]; exact (xw_gn (by decide) g_29)
                        have g_88 : fs_83[(28 : Nat)]? = some (.int (nI x_2)) := by rw [z_84]; exact (xw_gn (by decide) g_30)
                        have g_89 : fs_83[(29 : Nat)]? = some (.int 10) := by rw [z_84]; exact (xw_gs (by simp [l_27]))
                        have g_90 : fs_83[(30 : Nat)]? = some (.int (nI x_2)) := by rw [z_84]; exact (xw_gn (by decide) g_32)
                        have g_91 : fs_83[(31 : Nat)]? = some (.int (nI (x_2 + 1))) := by rw [z_84]; exact (xw_gn (by decide) g_33)
                        have ga_92 : ∀ i : Nat, i ∉ [28, 29, 30, 31] → fs_83[i]? = fs[i]? := fun i hi => by rw [z_84]; exact xw_gn (fun z => hi (by rw [z]; simp)) (ga_34 i hi)
                        clear z_84
                        refine s_Model_part_366 ?_
                        have hnw : ¬ isW (fa x_2) = true := fun q => by have q9 := qv_w.mpr ⟨hxa, q⟩; rw [b01_f z_43] at q9; cases q9
                        rw [qv_in hxa] at z_45
                        rw [qv_in hxa] at z_47
                        rw [qv_in hxa] at z_49
                        rw [qv_in hxa] at z_51
                        rw [qv_in hxa] at z_53
                        rw [qv_in hxa] at z_55
                        rw [qv_in hxa] at z_57
                        rw [qv_in hxa] at z_59
                        rw [qv_in hxa] at z_62
                        have hlx := lexK_s hxa hnw z_45
                        rw [show sgn (fa x_2) = 13 by rw [z_62]; decide] at hlx
                        subst hm_11
                        have hk9 := kdP_eq hlx
                        have hrk9 : nI (rkd (kdP fa asz x0)) = 10 := by rw [hk9.1]; rfl
                        refine ⟨rfl, ((bl fa asz x0) + 1), _, ?_, (fun _ => hk9.2.symm), l_85, e_79, g_88, ?_, g_90, g_91, ga_92, r_82⟩
                        · rw [hrk9]; exact ⟨by omega, by omega, fun _ => by omega, fun q => absurd q (by decide), fun q => absurd q (by decide)⟩
                        · rw [hrk9]; exact g_89
                    · skip
                      refine s_Model_part_345 ?_
                      refine s_Model_part_363 l_27 e_21 ?_
                      refine x_u1 (fun h_93 e_94 f_95 => ?_)
                      have e_96 := (f_95 asked_ (xw_neC e_23 e_21 (by simp))).trans e_23
                      have r_97 := r_24.up (by simp) f_95
                      obtain ⟨fs_98, z_99⟩ : ∃ z, z = fs_25.set 29 (.int 9) := ⟨_, rfl⟩
                      rw [← z_99] at e_94
                      have l_100 : fs_98.length = 62 := by rw [z_99]; simp only [List.length_set]; exact l_27
                      have g_101 : fs_98[(4 : Nat)]? = some (.ref asked_) := by rw [z_99]; exact (xw_gn (by decide) g_28)
                      have g_102 : fs_98[(11 : Nat)]? = some (.int (nI asz)) := by rw [z_99]; exact (xw_gn (by decide) g_29)
                      have g_103 : fs_98[(28 : Nat)]? = some (.int (nI x_2)) := by rw [z_99]; exact (xw_gn (by decide) g_30)
                      have g_104 : fs_98[(29 : Nat)]? = some (.int 9) := by rw [z_99]; exact (xw_gs (by simp [l_27]))
                      have g_105 : fs_98[(30 : Nat)]? = some (.int (nI x_2)) := by rw [z_99]; exact (xw_gn (by decide) g_32)
                      have g_106 : fs_98[(31 : Nat)]? = some (.int (nI (x_2 + 1))) := by rw [z_99]; exact (xw_gn (by decide) g_33)
                      have ga_107 : ∀ i : Nat, i ∉ [28, 29, 30, 31] → fs_98[i]? = fs[i]? := fun i hi => by rw [z_99]; exact xw_gn (fun z => hi (by rw [z]; simp)) (ga_34 i hi)
                      clear z_99
                      refine s_Model_part_366 ?_
                      have hnw : ¬ isW (fa x_2) = true := fun q => by have q9 := qv_w.mpr ⟨hxa, q⟩; rw [b01_f z_43] at q9; cases q9
                      rw [qv_in hxa] at z_45
                      rw [qv_in hxa] at z_47
                      rw [qv_in hxa] at z_49
                      rw [qv_in hxa] at z_51
                      rw [qv_in hxa] at z_53
                      rw [qv_in hxa] at z_55
                      rw [qv_in hxa] at z_57
                      rw [qv_in hxa] at z_60
                      have hlx := lexK_s hxa hnw z_45
                      rw [show sgn (fa x_2) = 15 by rw [z_60]; decide] at hlx
                      subst hm_11
                      have hk9 := kdP_eq hlx
                      have hrk9 : nI (rkd (kdP fa asz x0)) = 9 := by rw [hk9.1]; rfl
                      refine ⟨rfl, ((bl fa asz x0) + 1), _, ?_, (fun _ => hk9.2.symm), l_100, e_94, g_103, ?_, g_105, g_106, ga_107, r_97⟩
                      · rw [hrk9]; exact ⟨by omega, by omega, fun _ => by omega, fun q => absurd q (by decide), fun q => absurd q (by decide)⟩
                      · rw [hrk9]; exact g_104
                  · skip
                    refine s_Model_part_334 ?_
                    refine s_Model_part_363 l_27 e_21 ?_
                    refine x_u1 (fun h_108 e_109 f_110 => ?_)
                    have e_111 := (f_110 asked_ (xw_neC e_23 e_21 (by simp))).trans e_23
                    have r_112 := r_24.up (by simp) f_110
                    obtain ⟨fs_113, z_114⟩ : ∃ z, z = fs_25.set 29 (.int 8) := ⟨_, rfl⟩
                    rw [← z_114] at e_109
                    have l_115 : fs_113.length = 62 := by rw [z_114]; simp only [List.length_set]; exact l_27
                    have g_116 : fs_113[(4 : Nat)]? = some (.ref asked_) := by rw [z_114]; exact (xw_gn (by decide) g_28)
                    have g_117 : fs_113[(11 : Nat)]? = some (.int (nI asz)) := by rw [z_114]; exact (xw_gn (by decide) g_29)
                    have g_118 : fs_113[(28 : Nat)]? = some (.int (nI x_2)) := by rw [z_114]; exact (xw_gn (by decide) g_30)
                    have g_119 : fs_113[(29 : Nat)]? = some (.int 8) := by rw [z_114]; exact (xw_gs (by simp [l_27]))
                    have g_120 : fs_113[(30 : Nat)]? = some (.int (nI x_2)) := by rw [z_114]; exact (xw_gn (by decide) g_32)
                    have g_121 : fs_113[(31 : Nat)]? = some (.int (nI (x_2 + 1))) := by rw [z_114]; exact (xw_gn (by decide) g_33)
                    have ga_122 : ∀ i : Nat, i ∉ [28, 29, 30, 31] → fs_113[i]? = fs[i]? := fun i hi => by rw [z_114]; exact xw_gn (fun z => hi (by rw [z]; simp)) (ga_34 i hi)
                    clear z_114
                    refine s_Model_part_366 ?_
                    have hnw : ¬ isW (fa x_2) = true := fun q => by have q9 := qv_w.mpr ⟨hxa, q⟩; rw [b01_f z_43] at q9; cases q9
                    rw [qv_in hxa] at z_45
                    rw [qv_in hxa] at z_47
                    rw [qv_in hxa] at z_49
                    rw [qv_in hxa] at z_51
                    rw [qv_in hxa] at z_53
                    rw [qv_in hxa] at z_55
                    rw [qv_in hxa] at z_58
                    have hlx := lexK_s hxa hnw z_45
                    rw [show sgn (fa x_2) = 14 by rw [z_58]; decide] at hlx
                    subst hm_11
                    have hk9 := kdP_eq hlx
                    have hrk9 : nI (rkd (kdP fa asz x0)) = 8 := by rw [hk9.1]; rfl
                    refine ⟨rfl, ((bl fa asz x0) + 1), _, ?_, (fun _ => hk9.2.symm), l_115, e_109, g_118, ?_, g_120, g_121, ga_122, r_112⟩
                    · rw [hrk9]; exact ⟨by omega, by omega, fun _ => by omega, fun q => absurd q (by decide), fun q => absurd q (by decide)⟩
                    · rw [hrk9]; exact g_119
                · skip
                  refine s_Model_part_323 ?_
                  refine s_Model_part_363 l_27 e_21 ?_
                  refine x_u1 (fun h_123 e_124 f_125 => ?_)
                  have e_126 := (f_125 asked_ (xw_neC e_23 e_21 (by simp))).trans e_23
                  have r_127 := r_24.up (by simp) f_125
                  obtain ⟨fs_128, z_129⟩ : ∃ z, z = fs_25.set 29 (.int 7) := ⟨_, rfl⟩
                  rw [← z_129] at e_124
                  have l_130 : fs_128.length = 62 := by rw [z_129]; simp only [List.length_set]; exact l_27
                  have g_131 : fs_128[(4 : Nat)]? = some (.ref asked_) := by rw [z_129]; exact (xw_gn (by decide) g_28)
                  have g_132 : fs_128[(11 : Nat)]? = some (.int (nI asz)) := by rw [z_129]; exact (xw_gn (by decide) g_29)
                  have g_133 : fs_128[(28 : Nat)]? = some (.int (nI x_2)) := by rw [z_129]; exact (xw_gn (by decide) g_30)
                  have g_134 : fs_128[(29 : Nat)]? = some (.int 7) := by rw [z_129]; exact (xw_gs (by simp [l_27]))
                  have g_135 : fs_128[(30 : Nat)]? = some (.int (nI x_2)) := by rw [z_129]; exact (xw_gn (by decide) g_32)
                  have g_136 : fs_128[(31 : Nat)]? = some (.int (nI (x_2 + 1))) := by rw [z_129]; exact (xw_gn (by decide) g_33)
                  have ga_137 : ∀ i : Nat, i ∉ [28, 29, 30, 31] → fs_128[i]? = fs[i]? := fun i hi => by rw [z_129]; exact xw_gn (fun z => hi (by rw [z]; simp)) (ga_34 i hi)
                  clear z_129
                  refine s_Model_part_366 ?_
                  have hnw : ¬ isW (fa x_2) = true := fun q => by have q9 := qv_w.mpr ⟨hxa, q⟩; rw [b01_f z_43] at q9; cases q9
                  rw [qv_in hxa] at z_45
                  rw [qv_in hxa] at z_47
                  rw [qv_in hxa] at z_49
                  rw [qv_in hxa] at z_51
                  rw [qv_in hxa] at z_53
                  rw [qv_in hxa] at z_56
                  have hlx := lexK_s hxa hnw z_45
                  rw [show sgn (fa x_2) = 12 by rw [z_56]; decide] at hlx
                  subst hm_11
                  have hk9 := kdP_eq hlx
                  have hrk9 : nI (rkd (kdP fa asz x0)) = 7 := by rw [hk9.1]; rfl
                  refine ⟨rfl, ((bl fa asz x0) + 1), _, ?_, (fun _ => hk9.2.symm), l_130, e_124, g_133, ?_, g_135, g_136, ga_137, r_127⟩
                  · rw [hrk9]; exact ⟨by omega, by omega, fun _ => by omega, fun q => absurd q (by decide), fun q => absurd q (by decide)⟩
                  · rw [hrk9]; exact g_134
              · skip
                refine s_Model_part_312 ?_
                refine s_Model_part_363 l_27 e_21 ?_
                refine x_u1 (fun h_138 e_139 f_140 => ?_)
                have e_141 := (f_140 asked_ (xw_neC e_23 e_21 (by simp))).trans e_23
                have r_142 := r_24.up (by simp) f_140
                obtain ⟨fs_143, z_144⟩ : ∃ z, z = fs_25.set 29 (.int 6) := ⟨_, rfl⟩
                rw [← z_144] at e_139
                have l_145 : fs_143.length = 62 := by rw [z_144]; simp only [List.length_set]; exact l_27
                have g_146 : fs_143[(4 : Nat)]? = some (.ref asked_) := by rw [z_144]; exact (xw_gn (by decide) g_28)
                have g_147 : fs_143[(11 : Nat)]? = some (.int (nI asz)) := by rw [z_144]; exact (xw_gn (by decide) g_29)
                have g_148 : fs_143[(28 : Nat)]? = some (.int (nI x_2)) := by rw [z_144]; exact (xw_gn (by decide) g_30)
                have g_149 : fs_143[(29 : Nat)]? = some (.int 6) := by rw [z_144]; exact (xw_gs (by simp [l_27]))
                have g_150 : fs_143[(30 : Nat)]? = some (.int (nI x_2)) := by rw [z_144]; exact (xw_gn (by decide) g_32)
                have g_151 : fs_143[(31 : Nat)]? = some (.int (nI (x_2 + 1))) := by rw [z_144]; exact (xw_gn (by decide) g_33)
                have ga_152 : ∀ i : Nat, i ∉ [28, 29, 30, 31] → fs_143[i]? = fs[i]? := fun i hi => by rw [z_144]; exact xw_gn (fun z => hi (by rw [z]; simp)) (ga_34 i hi)
                clear z_144
                refine s_Model_part_366 ?_
                have hnw : ¬ isW (fa x_2) = true := fun q => by have q9 := qv_w.mpr ⟨hxa, q⟩; rw [b01_f z_43] at q9; cases q9
                rw [qv_in hxa] at z_45
                rw [qv_in hxa] at z_47
                rw [qv_in hxa] at z_49
                rw [qv_in hxa] at z_51
                rw [qv_in hxa] at z_54
                have hlx := lexK_s hxa hnw z_45
                rw [show sgn (fa x_2) = 11 by rw [z_54]; decide] at hlx
                subst hm_11
                have hk9 := kdP_eq hlx
                have hrk9 : nI (rkd (kdP fa asz x0)) = 6 := by rw [hk9.1]; rfl
                refine ⟨rfl, ((bl fa asz x0) + 1), _, ?_, (fun _ => hk9.2.symm), l_145, e_139, g_148, ?_, g_150, g_151, ga_152, r_142⟩
                · rw [hrk9]; exact ⟨by omega, by omega, fun _ => by omega, fun q => absurd q (by decide), fun q => absurd q (by decide)⟩
                · rw [hrk9]; exact g_149
            · skip
              refine s_Model_part_302 ?_
              refine s_Model_part_363 l_27 e_21 ?_
              refine x_u1 (fun h_153 e_154 f_155 => ?_)
              have e_156 := (f_155 asked_ (xw_neC e_23 e_21 (by simp))).trans e_23
              have r_157 := r_24.up (by simp) f_155
              obtain ⟨fs_158, z_159⟩ : ∃ z, z = fs_25.set 29 (.int 5) := ⟨_, rfl⟩
              rw [← z_159] at e_154
              have l_160 : fs_158.length = 62 := by rw [z_159]; simp only [List.length_set]; exact l_27
              have g_161 : fs_158[(4 : Nat)]? = some (.ref asked_) := by rw [z_159]; exact (xw_gn (by decide) g_28)
              have g_162 : fs_158[(11 : Nat)]? = some (.int (nI asz)) := by rw [z_159]; exact (xw_gn (by decide) g_29)
              have g_163 : fs_158[(28 : Nat)]? = some (.int (nI x_2)) := by rw [z_159]; exact (xw_gn (by decide) g_30)
              have g_164 : fs_158[(29 : Nat)]? = some (.int 5) := by rw [z_159]; exact (xw_gs (by simp [l_27]))
              have g_165 : fs_158[(30 : Nat)]? = some (.int (nI x_2)) := by rw [z_159]; exact (xw_gn (by decide) g_32)
              have g_166 : fs_158[(31 : Nat)]? = some (.int (nI (x_2 + 1))) := by rw [z_159]; exact (xw_gn (by decide) g_33)
              have ga_167 : ∀ i : Nat, i ∉ [28, 29, 30, 31] → fs_158[i]? = fs[i]? := fun i hi => by rw [z_159]; exact xw_gn (fun z => hi (by rw [z]; simp)) (ga_34 i hi)
              clear z_159
              refine s_Model_part_366 ?_
              have hnw : ¬ isW (fa x_2) = true := fun q => by have q9 := qv_w.mpr ⟨hxa, q⟩; rw [b01_f z_43] at q9; cases q9
              rw [qv_in hxa] at z_45
              rw [qv_in hxa] at z_47
              rw [qv_in hxa] at z_49
              rw [qv_in hxa] at z_52
              have hlx := lexK_s hxa hnw z_45
              rw [show sgn (fa x_2) = 16 by rw [z_52]; decide] at hlx
              subst hm_11
              have hk9 := kdP_eq hlx
              have hrk9 : nI (rkd (kdP fa asz x0)) = 5 := by rw [hk9.1]; rfl
              refine ⟨rfl, ((bl fa asz x0) + 1), _, ?_, (fun _ => hk9.2.symm), l_160, e_154, g_163, ?_, g_165, g_166, ga_167, r_157⟩
              · rw [hrk9]; exact ⟨by omega, by omega, fun _ => by omega, fun q => absurd q (by decide), fun q => absurd q (by decide)⟩
              · rw [hrk9]; exact g_164
          · skip
            refine s_Model_part_292 ?_
            refine s_Model_part_363 l_27 e_21 ?_
            refine x_u1 (fun h_168 e_169 f_170 => ?_)
            have e_171 := (f_170 asked_ (xw_neC e_23 e_21 (by simp))).trans e_23
            have r_172 := r_24.up (by simp) f_170
            obtain ⟨fs_173, z_174⟩ : ∃ z, z = fs_25.set 29 (.int 4) := ⟨_, rfl⟩
            rw [← z_174] at e_169
            have l_175 : fs_173.length = 62 := by rw [z_174]; simp only [List.length_set]; exact l_27
            have g_176 : fs_173[(4 : Nat)]? = some (.ref asked_) := by rw [z_174]; exact (xw_gn (by decide) g_28)
            have g_177 : fs_173[(11 : Nat)]? = some (.int (nI asz)) := by rw [z_174]; exact (xw_gn (by decide) g_29)
            have g_178 : fs_173[(28 : Nat)]? = some (.int (nI x_2)) := by rw [z_174]; exact (xw_gn (by decide) g_30)
            have g_179 : fs_173[(29 : Nat)]? = some (.int 4) := by rw [z_174]; exact (xw_gs (by simp [l_27]))
            have g_180 : fs_173[(30 : Nat)]? = some (.int (nI x_2)) := by rw [z_174]; exact (xw_gn (by decide) g_32)
            have g_181 : fs_173[(31 : Nat)]? = some (.int (nI (x_2 + 1))) := by rw [z_174]; exact (xw_gn (by decide) g_33)
            have ga_182 : ∀ i : Nat, i ∉ [28, 29, 30, 31] → fs_173[i]? = fs[i]? := fun i hi => by rw [z_174]; exact xw_gn (fun z => hi (by rw [z]; simp)) (ga_34 i hi)
            clear z_174
            refine s_Model_part_366 ?_
            have hnw : ¬ isW (fa x_2) = true := fun q => by have q9 := qv_w.mpr ⟨hxa, q⟩; rw [b01_f z_43] at q9; cases q9
            rw [qv_in hxa] at z_45
            rw [qv_in hxa] at z_47
            rw [qv_in hxa] at z_50
            have hlx := lexK_s hxa hnw z_45
            rw [show sgn (fa x_2) = 10 by rw [z_50]; decide] at hlx
            subst hm_11
            have hk9 := kdP_eq hlx
            have hrk9 : nI (rkd (kdP fa asz x0)) = 4 := by rw [hk9.1]; rfl
            refine ⟨rfl, ((bl fa asz x0) + 1), _, ?_, (fun _ => hk9.2.symm), l_175, e_169, g_178, ?_, g_180, g_181, ga_182, r_172⟩
            · rw [hrk9]; exact ⟨by omega, by omega, fun _ => by omega, fun q => absurd q (by decide), fun q => absurd q (by decide)⟩
            · rw [hrk9]; exact g_179
        · skip
          refine s_Model_part_282 ?_
          refine s_Model_part_363 l_27 e_21 ?_
          refine x_u1 (fun h_183 e_184 f_185 => ?_)
          have e_186 := (f_185 asked_ (xw_neC e_23 e_21 (by simp))).trans e_23
          have r_187 := r_24.up (by simp) f_185
          obtain ⟨fs_188, z_189⟩ : ∃ z, z = fs_25.set 29 (.int 3) := ⟨_, rfl⟩
          rw [← z_189] at e_184
          have l_190 : fs_188.length = 62 := by rw [z_189]; simp only [List.length_set]; exact l_27
          have g_191 : fs_188[(4 : Nat)]? = some (.ref asked_) := by rw [z_189]; exact (xw_gn (by decide) g_28)
          have g_192 : fs_188[(11 : Nat)]? = some (.int (nI asz)) := by rw [z_189]; exact (xw_gn (by decide) g_29)
          have g_193 : fs_188[(28 : Nat)]? = some (.int (nI x_2)) := by rw [z_189]; exact (xw_gn (by decide) g_30)
          have g_194 : fs_188[(29 : Nat)]? = some (.int 3) := by rw [z_189]; exact (xw_gs (by simp [l_27]))
          have g_195 : fs_188[(30 : Nat)]? = some (.int (nI x_2)) := by rw [z_189]; exact (xw_gn (by decide) g_32)
          have g_196 : fs_188[(31 : Nat)]? = some (.int (nI (x_2 + 1))) := by rw [z_189]; exact (xw_gn (by decide) g_33)
          have ga_197 : ∀ i : Nat, i ∉ [28, 29, 30, 31] → fs_188[i]? = fs[i]? := fun i hi => by rw [z_189]; exact xw_gn (fun z => hi (by rw [z]; simp)) (ga_34 i hi)
          clear z_189
          refine s_Model_part_366 ?_
          have hnw : ¬ isW (fa x_2) = true := fun q => by have q9 := qv_w.mpr ⟨hxa, q⟩; rw [b01_f z_43] at q9; cases q9
          rw [qv_in hxa] at z_45
          rw [qv_in hxa] at z_48
          have hlx := lexK_s hxa hnw z_45
          rw [show sgn (fa x_2) = 9 by rw [z_48]; decide] at hlx
          subst hm_11
          have hk9 := kdP_eq hlx
          have hrk9 : nI (rkd (kdP fa asz x0)) = 3 := by rw [hk9.1]; rfl
          refine ⟨rfl, ((bl fa asz x0) + 1), _, ?_, (fun _ => hk9.2.symm), l_190, e_184, g_193, ?_, g_195, g_196, ga_197, r_187⟩
          · rw [hrk9]; exact ⟨by omega, by omega, fun _ => by omega, fun q => absurd q (by decide), fun q => absurd q (by decide)⟩
          · rw [hrk9]; exact g_194
      · skip
        refine lp_pt3H (gs := fs_25) (h0 := h_20) (x0 := x_2 + 1) g_28 g_29 e_23 ⟨_, e_21⟩ hasz (by omega) (by omega) (fun h_198 x_199 fs_200 hb_201 hx_202 l_203 e_204 g_205 ga_206 fr_207 hm_208 => ?_) 98 (x_2 + 1) _ _ (by omega) (by omega) l_27 e_21 g_33 (fun _ _ => rfl) FrO.rf ⟨Nat.le_refl _, by omega, rfl⟩
        have e_209 := fr_207 asked_ _ (by simp only [List.mem_cons, List.not_mem_nil, or_false, not_or]; exact (xw_neC e_23 e_21 (by simp))) e_23
        have r_210 := r_24.trans (fr_207.mono (by simp))
        have g_211 : fs_200[(4 : Nat)]? = some (.ref asked_) := (ga_206 4 (by decide)).trans g_28
        have g_212 : fs_200[(11 : Nat)]? = some (.int (nI asz)) := (ga_206 11 (by decide)).trans g_29
        have g_213 : fs_200[(28 : Nat)]? = some (.int (nI x_2)) := (ga_206 28 (by decide)).trans g_30
        have g_214 : fs_200[(29 : Nat)]? = some (.int k0) := (ga_206 29 (by decide)).trans g_31
        have g_215 : fs_200[(30 : Nat)]? = some (.int (nI x_2)) := (ga_206 30 (by decide)).trans g_32
        have ga_216 : ∀ i : Nat, i ∉ [28, 29, 30, 31] → fs_200[i]? = fs[i]? := fun i hi => (ga_206 i (fun z => hi (by simp only [List.mem_cons, List.not_mem_nil, or_false] at z ⊢; omega))).trans (ga_34 i hi)
        refine s_Model_part_241 l_203 e_204 g_205 g_212 (fun z_217 => ?_) (fun z_218 => ?_)
        · skip
          refine s_Model_part_257 ?_
          refine s_Model_part_259 l_203 e_204 g_205 ?_
          rw [xw_up_up]
          refine x_u1 (fun h_219 e_220 f_221 => ?_)
          have e_222 := (f_221 asked_ (xw_neC e_209 e_204 (by simp))).trans e_209
          have r_223 := r_210.up (by simp) f_221
          obtain ⟨fs_224, z_225⟩ : ∃ z, z = (fs_200.set 29 (.int 15)).set 31 (.int ((nI x_199) + 1)) := ⟨_, rfl⟩
          rw [← z_225] at e_220
          have l_226 : fs_224.length = 62 := by rw [z_225]; simp only [List.length_set]; exact l_203
          have g_227 : fs_224[(4 : Nat)]? = some (.ref asked_) := by rw [z_225]; exact (xw_gn (by decide) (xw_gn (by decide) g_211))
          have g_228 : fs_224[(11 : Nat)]? = some (.int (nI asz)) := by rw [z_225]; exact (xw_gn (by decide) (xw_gn (by decide) g_212))
          have g_229 : fs_224[(28 : Nat)]? = some (.int (nI x_2)) := by rw [z_225]; exact (xw_gn (by decide) (xw_gn (by decide) g_213))
          have g_230 : fs_224[(29 : Nat)]? = some (.int 15) := by rw [z_225]; exact (xw_gn (by decide) (xw_gs (by simp [l_203])))
          have g_231 : fs_224[(30 : Nat)]? = some (.int (nI x_2)) := by rw [z_225]; exact (xw_gn (by decide) (xw_gn (by decide) g_215))
          have g_232 : fs_224[(31 : Nat)]? = some (.int ((nI x_199) + 1)) := by rw [z_225]; exact (xw_gs (by simp [l_203]))
          have ga_233 : ∀ i : Nat, i ∉ [28, 29, 30, 31] → fs_224[i]? = fs[i]? := fun i hi => by rw [z_225]; exact xw_gn (fun z => hi (by rw [z]; simp)) (xw_gn (fun z => hi (by rw [z]; simp)) (ga_216 i hi))
          clear z_225
          refine s_Model_part_366 ?_
          rw [nI_1] at g_232
          have hnw : ¬ isW (fa x_2) = true := fun q => by have q9 := qv_w.mpr ⟨hxa, q⟩; rw [b01_f z_43] at q9; cases q9
          have h34 : fa x_2 = 34 := by have q := z_46; rw [qv_in hxa] at q; exact q
          have hqa : ¬ x_199 < asz := fun q => absurd z_217 (nI_ge (b := asz) q (by omega))
          have hlx := lexK_q hxa hnw h34
          rw [if_neg (by rw [← hm_208.1]; exact hqa)] at hlx
          subst hm_11
          have hk9 := kdP_eq hlx
          have hrk9 : nI (rkd (kdP fa asz x0)) = 15 := by rw [hk9.1]; rfl
          refine ⟨rfl, (x_199 + 1), _, ?_, (fun q => absurd hk9.1 q), l_226, e_220, g_229, ?_, g_231, g_232, ga_233, r_223⟩
          · rw [hrk9]; exact ⟨by omega, by omega, fun _ => by omega, fun q => absurd q (by decide), fun q => absurd q (by decide)⟩
          · rw [hrk9]; exact g_230
        · skip
          refine s_Model_part_253 ?_
          refine s_Model_part_259 l_203 e_204 g_205 ?_
          rw [xw_up_up]
          refine x_u1 (fun h_234 e_235 f_236 => ?_)
          have e_237 := (f_236 asked_ (xw_neC e_209 e_204 (by simp))).trans e_209
          have r_238 := r_210.up (by simp) f_236
          obtain ⟨fs_239, z_240⟩ : ∃ z, z = (fs_200.set 29 (.int 2)).set 31 (.int ((nI x_199) + 1)) := ⟨_, rfl⟩
          rw [← z_240] at e_235
          have l_241 : fs_239.length = 62 := by rw [z_240]; simp only [List.length_set]; exact l_203
          have g_242 : fs_239[(4 : Nat)]? = some (.ref asked_) := by rw [z_240]; exact (xw_gn (by decide) (xw_gn (by decide) g_211))
          have g_243 : fs_239[(11 : Nat)]? = some (.int (nI asz)) := by rw [z_240]; exact (xw_gn (by decide) (xw_gn (by decide) g_212))
          have g_244 : fs_239[(28 : Nat)]? = some (.int (nI x_2)) := by rw [z_240]; exact (xw_gn (by decide) (xw_gn (by decide) g_213))
          have g_245 : fs_239[(29 : Nat)]? = some (.int 2) := by rw [z_240]; exact (xw_gn (by decide) (xw_gs (by simp [l_203])))
          have g_246 : fs_239[(30 : Nat)]? = some (.int (nI x_2)) := by rw [z_240]; exact (xw_gn (by decide) (xw_gn (by decide) g_215))
          have g_247 : fs_239[(31 : Nat)]? = some (.int ((nI x_199) + 1)) := by rw [z_240]; exact (xw_gs (by simp [l_203]))
          have ga_248 : ∀ i : Nat, i ∉ [28, 29, 30, 31] → fs_239[i]? = fs[i]? := fun i hi => by rw [z_240]; exact xw_gn (fun z => hi (by rw [z]; simp)) (xw_gn (fun z => hi (by rw [z]; simp)) (ga_216 i hi))
          clear z_240
          refine s_Model_part_366 ?_
          rw [nI_1] at g_247
          have hnw : ¬ isW (fa x_2) = true := fun q => by have q9 := qv_w.mpr ⟨hxa, q⟩; rw [b01_f z_43] at q9; cases q9
          have h34 : fa x_2 = 34 := by have q := z_46; rw [qv_in hxa] at q; exact q
          have hqa : x_199 < asz := Nat.lt_of_not_le (fun q => z_218 (nI_le q (by omega)))
          have hlx := lexK_q hxa hnw h34
          rw [if_pos (by rw [← hm_208.1]; exact hqa)] at hlx
          have hq34 : fa x_199 = 34 := by have q := quoE_end fa asz (asz - (x_2 + 1)) (x_2 + 1) (by omega); have q2 : quoE fa asz (asz - (x_2 + 1)) (x_2 + 1) = x_199 := hm_208.1.symm; rw [q2] at q; exact Classical.byContradiction (fun q3 => q ⟨hqa, q3⟩)
          subst hm_11
          have hk9 := kdP_eq hlx
          have hrk9 : nI (rkd (kdP fa asz x0)) = 2 := by rw [hk9.1]; rfl
          refine ⟨rfl, (x_199 + 1), _, ?_, (fun _ => by rw [hk9.2, hm_208.1]), l_241, e_235, g_244, ?_, g_246, g_247, ga_248, r_238⟩
          · rw [hrk9]; exact ⟨by omega, by omega, fun _ => by omega, fun q => absurd q (by decide), fun _ => ⟨by omega, by rw [Nat.add_sub_cancel, qv_in hqa, hq34]; decide⟩⟩
          · rw [hrk9]; exact g_245
    · skip
      have hxw : x_2 < asz ∧ isW (fa x_2) = true := qv_w.mp (b01_t z_44)
      refine lp_pt2H (gs := fs_25) (h0 := h_20) (x0 := x_2 + 1) g_28 g_29 e_23 ⟨_, e_21⟩ hasz (by omega) (by omega) (fun h_249 x_250 fs_251 hb_252 hx_253 l_254 e_255 g_256 ga_257 fr_258 hm_259 => ?_) 98 (x_2 + 1) _ _ (by omega) (by omega) l_27 e_21 g_33 (fun _ _ => rfl) FrO.rf ⟨Nat.le_refl _, by omega, rfl⟩
      have e_260 := fr_258 asked_ _ (by simp only [List.mem_cons, List.not_mem_nil, or_false, not_or]; exact (xw_neC e_23 e_21 (by simp))) e_23
      have r_261 := r_24.trans (fr_258.mono (by simp))
      have g_262 : fs_251[(4 : Nat)]? = some (.ref asked_) := (ga_257 4 (by decide)).trans g_28
      have g_263 : fs_251[(11 : Nat)]? = some (.int (nI asz)) := (ga_257 11 (by decide)).trans g_29
      have g_264 : fs_251[(28 : Nat)]? = some (.int (nI x_2)) := (ga_257 28 (by decide)).trans g_30
      have g_265 : fs_251[(29 : Nat)]? = some (.int k0) := (ga_257 29 (by decide)).trans g_31
      have g_266 : fs_251[(30 : Nat)]? = some (.int (nI x_2)) := (ga_257 30 (by decide)).trans g_32
      have ga_267 : ∀ i : Nat, i ∉ [28, 29, 30, 31] → fs_251[i]? = fs[i]? := fun i hi => (ga_257 i (fun z => hi (by simp only [List.mem_cons, List.not_mem_nil, or_false] at z ⊢; omega))).trans (ga_34 i hi)
      refine s_Model_part_114 ?_
      refine x_callV (As := [.int 65, .int 78, .int 68, .int 0]) (b := m) (rest := [.ref m]) (F1 := 2) (L1 := 41) (mc := 0) (ms := 0) d_Model_part_123 cV_Model_230 (f_spells3 l_254 e_255 g_266 g_256 g_263 g_262 e_260 (by omega) (by omega) (by omega) (by omega) (by decide) (by omega) (by omega)) e_255 ⟨by decide, rfl⟩ ⟨by omega, by show 8 + (6 + 11) + 41 ≤ _; omega⟩ ⟨by omega, by omega⟩ (Nat.le_of_ble_eq_true rfl) (fun v_271 h_270 p_272 => ?_)
      obtain ⟨⟨y_268, rfl, hy_269⟩, rfl⟩ := p_272
      refine s_Model_part_126 (fun z_273 => ?_) (fun z_274 => ?_)
      · skip
        refine s_Model_part_134 ?_
        refine x_callV (As := [.int 79, .int 82, .int 0, .int 0]) (b := m) (rest := [.ref m]) (F1 := 2) (L1 := 41) (mc := 0) (ms := 0) d_Model_part_141 cV_Model_230 (f_spells2 l_254 e_255 g_266 g_256 g_263 g_262 e_260 (by omega) (by omega) (by omega) (by omega) (by omega) (by omega)) e_255 ⟨by decide, rfl⟩ ⟨by omega, by show 8 + (6 + 11) + 41 ≤ _; omega⟩ ⟨by omega, by omega⟩ (Nat.le_of_ble_eq_true rfl) (fun v_278 h_277 p_279 => ?_)
        obtain ⟨⟨y_275, rfl, hy_276⟩, rfl⟩ := p_279
        refine s_Model_part_144 (fun z_280 => ?_) (fun z_281 => ?_)
        · skip
          refine s_Model_part_152 ?_
          refine x_callV (As := [.int 78, .int 79, .int 84, .int 0]) (b := m) (rest := [.ref m]) (F1 := 2) (L1 := 41) (mc := 0) (ms := 0) d_Model_part_160 cV_Model_230 (f_spells3 l_254 e_255 g_266 g_256 g_263 g_262 e_260 (by omega) (by omega) (by omega) (by omega) (by decide) (by omega) (by omega)) e_255 ⟨by decide, rfl⟩ ⟨by omega, by show 8 + (6 + 11) + 41 ≤ _; omega⟩ ⟨by omega, by omega⟩ (Nat.le_of_ble_eq_true rfl) (fun v_285 h_284 p_286 => ?_)
          obtain ⟨⟨y_282, rfl, hy_283⟩, rfl⟩ := p_286
          refine s_Model_part_163 (fun z_287 => ?_) (fun z_288 => ?_)
          · skip
            refine s_Model_part_171 ?_
            refine x_callV (As := [.int 78, .int 69, .int 65, .int 82]) (b := m) (rest := [.ref m]) (F1 := 2) (L1 := 41) (mc := 0) (ms := 0) d_Model_part_180 cV_Model_230 (f_spells4 l_254 e_255 g_266 g_256 g_263 g_262 e_260 (by omega) (by omega) (by omega) (by omega) (by decide) (by omega) (by omega)) e_255 ⟨by decide, rfl⟩ ⟨by omega, by show 8 + (6 + 11) + 41 ≤ _; omega⟩ ⟨by omega, by omega⟩ (Nat.le_of_ble_eq_true rfl) (fun v_292 h_291 p_293 => ?_)
            obtain ⟨⟨y_289, rfl, hy_290⟩, rfl⟩ := p_293
            refine x_le (xw_le_n (xw_le_n xw_le_e)) ?_
            refine s_Model_part_183 (fun z_294 => ?_) (fun z_295 => ?_)
            · skip
              refine s_Model_part_191 ?_
              refine s_Model_part_192 l_254 e_255 ?_
              refine x_u1 (fun h_296 e_297 f_298 => ?_)
              have e_299 := (f_298 asked_ (xw_neC e_260 e_255 (by simp))).trans e_260
              have r_300 := r_261.up (by simp) f_298
              obtain ⟨fs_301, z_302⟩ : ∃ z, z = fs_251.set 29 (.int 1) := ⟨_, rfl⟩
              rw [← z_302] at e_297
              have l_303 : fs_301.length = 62 := by rw [z_302]; simp only [List.length_set]; exact l_254
              have g_304 : fs_301[(4 : Nat)]? = some (.ref asked_) := by rw [z_302]; exact (xw_gn (by decide) g_262)
              have g_305 : fs_301[(11 : Nat)]? = some (.int (nI asz)) := by rw [z_302]; exact (xw_gn (by decide) g_263)
              have g_306 : fs_301[(28 : Nat)]? = some (.int (nI x_2)) := by rw [z_302]; exact (xw_gn (by decide) g_264)
              have g_307 : fs_301[(29 : Nat)]? = some (.int 1) := by rw [z_302]; exact (xw_gs (by simp [l_254]))
              have g_308 : fs_301[(30 : Nat)]? = some (.int (nI x_2)) := by rw [z_302]; exact (xw_gn (by decide) g_266)
              have g_309 : fs_301[(31 : Nat)]? = some (.int (nI x_250)) := by rw [z_302]; exact (xw_gn (by decide) g_256)
              have ga_310 : ∀ i : Nat, i ∉ [28, 29, 30, 31] → fs_301[i]? = fs[i]? := fun i hi => by rw [z_302]; exact xw_gn (fun z => hi (by rw [z]; simp)) (ga_267 i hi)
              clear z_302
              refine s_Model_part_366 ?_
              have hlx := lexK_w (n := asz) hxw.1 hxw.2
              have hwr : wr fa asz x_2 = x_250 := by rw [hm_259.1]; exact wr_step hxw
              rw [hwr] at hlx
              have hf_311 := (hy_269.resolve_right (fun q => absurd (q.1.symm.trans z_273) (by decide))).2
              have hf_312 := (hy_276.resolve_right (fun q => absurd (q.1.symm.trans z_280) (by decide))).2
              have hf_313 := (hy_283.resolve_right (fun q => absurd (q.1.symm.trans z_287) (by decide))).2
              have hf_314 := (hy_290.resolve_right (fun q => absurd (q.1.symm.trans z_294) (by decide))).2
              have hrk := rkd_wn (n := asz) hf_312 hf_311 hf_313 hf_314
              have hnw9 : isW (qv fa asz x_250) = false := by cases q : isW (qv fa asz x_250) with | false => rfl | true => exact absurd (qv_w.mp q) (by rw [hm_259.1]; exact wrdE_end fa asz (asz - (x_2 + 1)) (x_2 + 1) (by omega))
              subst hm_11
              have hk9 := kdP_eq hlx
              have hrk9 : nI (rkd (kdP fa asz x0)) = 1 := by rw [hk9.1]; rw [hrk]; rfl
              refine ⟨rfl, x_250, _, ?_, (fun _ => hk9.2.symm), l_303, e_297, g_306, ?_, g_308, g_309, ga_310, r_300⟩
              · rw [hrk9]; exact ⟨by omega, by omega, fun _ => by omega, fun _ => hnw9, fun q => absurd q (by decide)⟩
              · rw [hrk9]; exact g_307
            · skip
              refine s_Model_part_186 ?_
              refine s_Model_part_192 l_254 e_255 ?_
              refine x_u1 (fun h_315 e_316 f_317 => ?_)
              have e_318 := (f_317 asked_ (xw_neC e_260 e_255 (by simp))).trans e_260
              have r_319 := r_261.up (by simp) f_317
              obtain ⟨fs_320, z_321⟩ : ∃ z, z = fs_251.set 29 (.int 14) := ⟨_, rfl⟩
              rw [← z_321] at e_316
              have l_322 : fs_320.length = 62 := by rw [z_321]; simp only [List.length_set]; exact l_254
              have g_323 : fs_320[(4 : Nat)]? = some (.ref asked_) := by rw [z_321]; exact (xw_gn (by decide) g_262)
              have g_324 : fs_320[(11 : Nat)]? = some (.int (nI asz)) := by rw [z_321]; exact (xw_gn (by decide) g_263)
              have g_325 : fs_320[(28 : Nat)]? = some (.int (nI x_2)) := by rw [z_321]; exact (xw_gn (by decide) g_264)
              have g_326 : fs_320[(29 : Nat)]? = some (.int 14) := by rw [z_321]; exact (xw_gs (by simp [l_254]))
              have g_327 : fs_320[(30 : Nat)]? = some (.int (nI x_2)) := by rw [z_321]; exact (xw_gn (by decide) g_266)
              have g_328 : fs_320[(31 : Nat)]? = some (.int (nI x_250)) := by rw [z_321]; exact (xw_gn (by decide) g_256)
              have ga_329 : ∀ i : Nat, i ∉ [28, 29, 30, 31] → fs_320[i]? = fs[i]? := fun i hi => by rw [z_321]; exact xw_gn (fun z => hi (by rw [z]; simp)) (ga_267 i hi)
              clear z_321
              refine s_Model_part_366 ?_
              have hlx := lexK_w (n := asz) hxw.1 hxw.2
              have hwr : wr fa asz x_2 = x_250 := by rw [hm_259.1]; exact wr_step hxw
              rw [hwr] at hlx
              have hf_330 := (hy_269.resolve_right (fun q => absurd (q.1.symm.trans z_273) (by decide))).2
              have hf_331 := (hy_276.resolve_right (fun q => absurd (q.1.symm.trans z_280) (by decide))).2
              have hf_332 := (hy_283.resolve_right (fun q => absurd (q.1.symm.trans z_287) (by decide))).2
              have hf_333 := (hy_290.resolve_left (fun q => z_295 q.1)).2
              rw [wkd_8 hf_331 hf_330 hf_332 hf_333] at hlx
              have hnw9 : isW (qv fa asz x_250) = false := by cases q : isW (qv fa asz x_250) with | false => rfl | true => exact absurd (qv_w.mp q) (by rw [hm_259.1]; exact wrdE_end fa asz (asz - (x_2 + 1)) (x_2 + 1) (by omega))
              subst hm_11
              have hk9 := kdP_eq hlx
              have hrk9 : nI (rkd (kdP fa asz x0)) = 14 := by rw [hk9.1]; rfl
              refine ⟨rfl, x_250, _, ?_, (fun _ => hk9.2.symm), l_322, e_316, g_325, ?_, g_327, g_328, ga_329, r_319⟩
              · rw [hrk9]; exact ⟨by omega, by omega, fun _ => by omega, fun q => absurd q (by decide), fun q => absurd q (by decide)⟩
              · rw [hrk9]; exact g_326
          · skip
            refine s_Model_part_166 ?_
            refine s_Model_part_192 l_254 e_255 ?_
            refine x_u1 (fun h_334 e_335 f_336 => ?_)
            have e_337 := (f_336 asked_ (xw_neC e_260 e_255 (by simp))).trans e_260
            have r_338 := r_261.up (by simp) f_336
            obtain ⟨fs_339, z_340⟩ : ∃ z, z = fs_251.set 29 (.int 13) := ⟨_, rfl⟩
            rw [← z_340] at e_335
            have l_341 : fs_339.length = 62 := by rw [z_340]; simp only [List.length_set]; exact l_254
            have g_342 : fs_339[(4 : Nat)]? = some (.ref asked_) := by rw [z_340]; exact (xw_gn (by decide) g_262)
            have g_343 : fs_339[(11 : Nat)]? = some (.int (nI asz)) := by rw [z_340]; exact (xw_gn (by decide) g_263)
            have g_344 : fs_339[(28 : Nat)]? = some (.int (nI x_2)) := by rw [z_340]; exact (xw_gn (by decide) g_264)
            have g_345 : fs_339[(29 : Nat)]? = some (.int 13) := by rw [z_340]; exact (xw_gs (by simp [l_254]))
            have g_346 : fs_339[(30 : Nat)]? = some (.int (nI x_2)) := by rw [z_340]; exact (xw_gn (by decide) g_266)
            have g_347 : fs_339[(31 : Nat)]? = some (.int (nI x_250)) := by rw [z_340]; exact (xw_gn (by decide) g_256)
            have ga_348 : ∀ i : Nat, i ∉ [28, 29, 30, 31] → fs_339[i]? = fs[i]? := fun i hi => by rw [z_340]; exact xw_gn (fun z => hi (by rw [z]; simp)) (ga_267 i hi)
            clear z_340
            refine s_Model_part_366 ?_
            have hlx := lexK_w (n := asz) hxw.1 hxw.2
            have hwr : wr fa asz x_2 = x_250 := by rw [hm_259.1]; exact wr_step hxw
            rw [hwr] at hlx
            have hf_349 := (hy_269.resolve_right (fun q => absurd (q.1.symm.trans z_273) (by decide))).2
            have hf_350 := (hy_276.resolve_right (fun q => absurd (q.1.symm.trans z_280) (by decide))).2
            have hf_351 := (hy_283.resolve_left (fun q => z_288 q.1)).2
            rw [wkd_7 hf_350 hf_349 hf_351] at hlx
            have hnw9 : isW (qv fa asz x_250) = false := by cases q : isW (qv fa asz x_250) with | false => rfl | true => exact absurd (qv_w.mp q) (by rw [hm_259.1]; exact wrdE_end fa asz (asz - (x_2 + 1)) (x_2 + 1) (by omega))
            subst hm_11
            have hk9 := kdP_eq hlx
            have hrk9 : nI (rkd (kdP fa asz x0)) = 13 := by rw [hk9.1]; rfl
            refine ⟨rfl, x_250, _, ?_, (fun _ => hk9.2.symm), l_341, e_335, g_344, ?_, g_346, g_347, ga_348, r_338⟩
            · rw [hrk9]; exact ⟨by omega, by omega, fun _ => by omega, fun q => absurd q (by decide), fun q => absurd q (by decide)⟩
            · rw [hrk9]; exact g_345
        · skip
          refine s_Model_part_147 ?_
          refine s_Model_part_192 l_254 e_255 ?_
          refine x_u1 (fun h_352 e_353 f_354 => ?_)
          have e_355 := (f_354 asked_ (xw_neC e_260 e_255 (by simp))).trans e_260
          have r_356 := r_261.up (by simp) f_354
          obtain ⟨fs_357, z_358⟩ : ∃ z, z = fs_251.set 29 (.int 12) := ⟨_, rfl⟩
          rw [← z_358] at e_353
          have l_359 : fs_357.length = 62 := by rw [z_358]; simp only [List.length_set]; exact l_254
          have g_360 : fs_357[(4 : Nat)]? = some (.ref asked_) := by rw [z_358]; exact (xw_gn (by decide) g_262)
          have g_361 : fs_357[(11 : Nat)]? = some (.int (nI asz)) := by rw [z_358]; exact (xw_gn (by decide) g_263)
          have g_362 : fs_357[(28 : Nat)]? = some (.int (nI x_2)) := by rw [z_358]; exact (xw_gn (by decide) g_264)
          have g_363 : fs_357[(29 : Nat)]? = some (.int 12) := by rw [z_358]; exact (xw_gs (by simp [l_254]))
          have g_364 : fs_357[(30 : Nat)]? = some (.int (nI x_2)) := by rw [z_358]; exact (xw_gn (by decide) g_266)
          have g_365 : fs_357[(31 : Nat)]? = some (.int (nI x_250)) := by rw [z_358]; exact (xw_gn (by decide) g_256)
          have ga_366 : ∀ i : Nat, i ∉ [28, 29, 30, 31] → fs_357[i]? = fs[i]? := fun i hi => by rw [z_358]; exact xw_gn (fun z => hi (by rw [z]; simp)) (ga_267 i hi)
          clear z_358
          refine s_Model_part_366 ?_
          have hlx := lexK_w (n := asz) hxw.1 hxw.2
          have hwr : wr fa asz x_2 = x_250 := by rw [hm_259.1]; exact wr_step hxw
          rw [hwr] at hlx
          have hf_367 := (hy_269.resolve_right (fun q => absurd (q.1.symm.trans z_273) (by decide))).2
          have hf_368 := (hy_276.resolve_left (fun q => z_281 q.1)).2
          rw [wkd_5 hf_368] at hlx
          have hnw9 : isW (qv fa asz x_250) = false := by cases q : isW (qv fa asz x_250) with | false => rfl | true => exact absurd (qv_w.mp q) (by rw [hm_259.1]; exact wrdE_end fa asz (asz - (x_2 + 1)) (x_2 + 1) (by omega))
          subst hm_11
          have hk9 := kdP_eq hlx
          have hrk9 : nI (rkd (kdP fa asz x0)) = 12 := by rw [hk9.1]; rfl
          refine ⟨rfl, x_250, _, ?_, (fun _ => hk9.2.symm), l_359, e_353, g_362, ?_, g_364, g_365, ga_366, r_356⟩
          · rw [hrk9]; exact ⟨by omega, by omega, fun _ => by omega, fun q => absurd q (by decide), fun q => absurd q (by decide)⟩
          · rw [hrk9]; exact g_363
      · skip
        refine s_Model_part_129 ?_
        refine s_Model_part_192 l_254 e_255 ?_
        refine x_u1 (fun h_369 e_370 f_371 => ?_)
        have e_372 := (f_371 asked_ (xw_neC e_260 e_255 (by simp))).trans e_260
        have r_373 := r_261.up (by simp) f_371
        obtain ⟨fs_374, z_375⟩ : ∃ z, z = fs_251.set 29 (.int 11) := ⟨_, rfl⟩
        rw [← z_375] at e_370
        have l_376 : fs_374.length = 62 := by rw [z_375]; simp only [List.length_set]; exact l_254
        have g_377 : fs_374[(4 : Nat)]? = some (.ref asked_) := by rw [z_375]; exact (xw_gn (by decide) g_262)
        have g_378 : fs_374[(11 : Nat)]? = some (.int (nI asz)) := by rw [z_375]; exact (xw_gn (by decide) g_263)
        have g_379 : fs_374[(28 : Nat)]? = some (.int (nI x_2)) := by rw [z_375]; exact (xw_gn (by decide) g_264)
        have g_380 : fs_374[(29 : Nat)]? = some (.int 11) := by rw [z_375]; exact (xw_gs (by simp [l_254]))
        have g_381 : fs_374[(30 : Nat)]? = some (.int (nI x_2)) := by rw [z_375]; exact (xw_gn (by decide) g_266)
        have g_382 : fs_374[(31 : Nat)]? = some (.int (nI x_250)) := by rw [z_375]; exact (xw_gn (by decide) g_256)
        have ga_383 : ∀ i : Nat, i ∉ [28, 29, 30, 31] → fs_374[i]? = fs[i]? := fun i hi => by rw [z_375]; exact xw_gn (fun z => hi (by rw [z]; simp)) (ga_267 i hi)
        clear z_375
        refine s_Model_part_366 ?_
        have hlx := lexK_w (n := asz) hxw.1 hxw.2
        have hwr : wr fa asz x_2 = x_250 := by rw [hm_259.1]; exact wr_step hxw
        rw [hwr] at hlx
        have hf_384 := (hy_269.resolve_left (fun q => z_274 q.1)).2
        have hn_385 : ¬ isN fa x_2 x_250 [79, 82] := fun q => by have q1 := q.1; have q2 := hf_384.1; simp only [List.length_cons, List.length_nil] at q1 q2; omega
        rw [wkd_6 hn_385 hf_384] at hlx
        have hnw9 : isW (qv fa asz x_250) = false := by cases q : isW (qv fa asz x_250) with | false => rfl | true => exact absurd (qv_w.mp q) (by rw [hm_259.1]; exact wrdE_end fa asz (asz - (x_2 + 1)) (x_2 + 1) (by omega))
        subst hm_11
        have hk9 := kdP_eq hlx
        have hrk9 : nI (rkd (kdP fa asz x0)) = 11 := by rw [hk9.1]; rfl
        refine ⟨rfl, x_250, _, ?_, (fun _ => hk9.2.symm), l_376, e_370, g_379, ?_, g_381, g_382, ga_383, r_373⟩
        · rw [hrk9]; exact ⟨by omega, by omega, fun _ => by omega, fun q => absurd q (by decide), fun q => absurd q (by decide)⟩
        · rw [hrk9]; exact g_380
  · skip
    refine s_Model_part_64 l_27 e_21 g_30 ?_
    rw [xw_up_up]
    refine x_u1 (fun h_386 e_387 f_388 => ?_)
    have e_389 := (f_388 asked_ (xw_neC e_23 e_21 (by simp))).trans e_23
    have r_390 := r_24.up (by simp) f_388
    obtain ⟨fs_391, z_392⟩ : ∃ z, z = (fs_25.set 29 (.int 0)).set 31 (.int (nI x_2)) := ⟨_, rfl⟩
    rw [← z_392] at e_387
    have l_393 : fs_391.length = 62 := by rw [z_392]; simp only [List.length_set]; exact l_27
    have g_394 : fs_391[(4 : Nat)]? = some (.ref asked_) := by rw [z_392]; exact (xw_gn (by decide) (xw_gn (by decide) g_28))
    have g_395 : fs_391[(11 : Nat)]? = some (.int (nI asz)) := by rw [z_392]; exact (xw_gn (by decide) (xw_gn (by decide) g_29))
    have g_396 : fs_391[(28 : Nat)]? = some (.int (nI x_2)) := by rw [z_392]; exact (xw_gn (by decide) (xw_gn (by decide) g_30))
    have g_397 : fs_391[(29 : Nat)]? = some (.int 0) := by rw [z_392]; exact (xw_gn (by decide) (xw_gs (by simp [l_27])))
    have g_398 : fs_391[(30 : Nat)]? = some (.int (nI x_2)) := by rw [z_392]; exact (xw_gn (by decide) (xw_gn (by decide) g_32))
    have g_399 : fs_391[(31 : Nat)]? = some (.int (nI x_2)) := by rw [z_392]; exact (xw_gs (by simp [l_27]))
    have ga_400 : ∀ i : Nat, i ∉ [28, 29, 30, 31] → fs_391[i]? = fs[i]? := fun i hi => by rw [z_392]; exact xw_gn (fun z => hi (by rw [z]; simp)) (xw_gn (fun z => hi (by rw [z]; simp)) (ga_34 i hi))
    clear z_392
    refine s_Model_part_366 ?_
    have hlx := lexK_e (t := fa) (n := asz) (s := x_2) (Nat.le_of_not_lt (fun q => z_39 (nI_lt q (by omega))))
    subst hm_11
    have hk9 := kdP_eq hlx
    have hrk9 : nI (rkd (kdP fa asz x0)) = 0 := by rw [hk9.1]; rfl
    refine ⟨rfl, (bl fa asz x0), _, ?_, (fun _ => hk9.2.symm), l_393, e_387, g_396, ?_, g_398, g_399, ga_400, r_390⟩
    · rw [hrk9]; exact ⟨Nat.le_refl _, by omega, fun q => absurd rfl q, fun q => absurd q (by decide), fun q => absurd q (by decide)⟩
    · rw [hrk9]; exact g_397
