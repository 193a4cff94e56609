/-! the reference in general states: by program (wip/tools/gen3.py, gen4.py, gen5.py) -/
/-! THE REFERENCE: reading a question -/
def qv (f : Nat → Int32) (n k : Nat) : Int32 := if k < n then f k else 0
theorem qv_lt {f : Nat → Int32} {n k : Nat} (h : ¬ qv f n k = 0) : k < n := by
  by_cases q : k < n
  · exact q
  · exact absurd (by unfold qv; rw [if_neg q]) h
theorem qs_lt {f : Nat → Int32} {n k : Nat} (h : isW (qv f n k) = true) : k < n := qv_lt (fun q => by rw [q] at h; exact absurd h (by decide))
theorem nI_2 (x : Nat) : nI x + 2 = nI (x + 2) := by rw [show (2 : Int32) = nI 2 from rfl, nI_add]
theorem nI_3 (x : Nat) : nI x + 3 = nI (x + 3) := by rw [show (3 : Int32) = nI 3 from rfl, nI_add]
/-- a part from x to y -/
def PtO (fa : Nat → Int32) (asz x y : Nat) (kd : Int32) : Prop := x ≤ y ∧ y ≤ 97 ∧ (¬ kd = 0 → x < y) ∧ (kd = 1 → isW (qv fa asz y) = false) ∧ (kd = 2 → 1 ≤ y ∧ isW (qv fa asz (y - 1)) = false)
/-- how many tokens there may be at x -/
def JO (fa : Nat → Int32) (asz t x : Nat) : Prop := 2 * t ≤ x + 1 ∧ (isW (qv fa asz x) = true → 2 * t ≤ x)
theorem JO.mono {fa : Nat → Int32} {asz t x y : Nat} (h : JO fa asz t x) (hxy : x ≤ y) : JO fa asz t y := by
  rcases Nat.eq_or_lt_of_le hxy with q | q
  · rw [← q]; exact h
  · exact ⟨by have := h.1; omega, fun _ => by have := h.1; omega⟩
/-- within a part that begins at x: k is the place -/
def JI (fa : Nat → Int32) (asz t x k : Nat) : Prop := 2 * t ≤ k + 1 ∧ (isW (qv fa asz k) = true → (k = x ∨ isW (qv fa asz (k - 1)) = false) → 2 * t ≤ k)
/-- the tokens that were taken lie before x -/
def TkO (ca cs : Nat → Int32) (t x : Nat) : Prop := ∀ j, j < t → ∃ a s, ca j = nI a ∧ cs j = nI s ∧ a + s ≤ x ∧ a + s ≤ 96
theorem TkO.mono {ca cs : Nat → Int32} {t x y : Nat} (h : TkO ca cs t x) (hxy : x ≤ y) : TkO ca cs t y := fun j hj => by
  obtain ⟨a, s, h1, h2, h3, h4⟩ := h j hj
  exact ⟨a, s, h1, h2, by omega, h4⟩
theorem TkO.new {ca cs : Nat → Int32} {t x : Nat} (h : TkO ca cs t x) (hx : x < 96) : TkO (upd ca t (nI x)) (upd cs t 0) (t + 1) x := fun j hj => by
  by_cases q : j = t
  · subst q
    exact ⟨x, 0, pk_us, pk_us, by omega, by omega⟩
  · obtain ⟨a, s, h1, h2, h3, h4⟩ := h j (by omega)
    exact ⟨a, s, by rw [pk_un q]; exact h1, by rw [pk_un q]; exact h2, h3, h4⟩
theorem TkO.inc {ca cs : Nat → Int32} {t x : Nat} (h : TkO ca cs (t + 1) x) (hx : x < 96) : TkO ca (upd cs t (cs t + 1)) (t + 1) (x + 1) := fun j hj => by
  obtain ⟨a, s, h1, h2, h3, h4⟩ := h j hj
  by_cases q : j = t
  · subst q
    exact ⟨a, s + 1, h1, by rw [pk_us, h2, nI_1], by omega, by omega⟩
  · exact ⟨a, s, h1, by rw [pk_un q]; exact h2, by omega, h4⟩
set_option maxHeartbeats 400000 in
theorem f_q {G : xw_G} {F L : Nat} {h : xw_A} {x asz : Nat} {fa : Nat → Int32} {asked_ : Nat} {m : Nat} {fs : List Value} (l : fs.length = 62) (e : h m = some (.inr (11, fs))) (g_askedSize : fs[(11 : Nat)]? = some (.int (nI asz))) (g_asked : fs[(4 : Nat)]? = some (.ref asked_)) (e_asked : h asked_ = some (.inl (0, 96, .inl (fa)))) (hx : x < 1000) (hasz : asz ≤ 96) (hF : 1 ≤ F) (hL : 20 ≤ L) :
    xw_Met G m_Model_q F L 0 0 [.ref m, .int (nI x)] h (fun v h' => v = some (.int (qv fa asz x)) ∧ h = h') (fun _ _ => False) := by
  refine xw_Met.of rfl (by decide) (Nat.le_of_ble_eq_true rfl) ?_
  refine s_Model_q_0 l e g_askedSize (fun z_1 => ?_) (fun z_2 => ?_)
  · skip
    refine s_Model_q_17 ?_
    refine s_Model_q_18 ?_
    exact ⟨congrArg (fun z => some (Value.int z)) (by unfold qv; rw [if_neg (fun q => absurd z_1 (nI_ge (b := asz) q (by omega)))]), rfl⟩
  · skip
    refine s_Model_q_8 l e g_asked e_asked (by have q8 : x < asz := Nat.lt_of_not_le (fun q => z_2 (nI_le q (by omega))); exact vp_in_nI (by omega) (by decide)) ?_
    refine s_Model_q_18 ?_
    exact ⟨congrArg (fun z => some (Value.int z)) (by unfold qv; rw [if_pos (Nat.lt_of_not_le (fun q => z_2 (nI_le q (by omega)))), nI_clamp (by omega)]), rfl⟩
set_option maxHeartbeats 400000 in
theorem f_spells {G : xw_G} {F L : Nat} {h : xw_A} {x asz : Nat} {a b c d t0 : Int32} {fa : Nat → Int32} {asked_ : Nat} {m : Nat} {fs : List Value} (l : fs.length = 62) (e : h m = some (.inr (11, fs))) (g_from : fs[(30 : Nat)]? = some (.int (nI x))) (g_to : fs[(31 : Nat)]? = some (.int t0)) (g_askedSize : fs[(11 : Nat)]? = some (.int (nI asz))) (g_asked : fs[(4 : Nat)]? = some (.ref asked_)) (e_asked : h asked_ = some (.inl (0, 96, .inl (fa)))) (hx : x < 900) (hasz : asz ≤ 96) (hF : 2 ≤ F) (hL : 41 ≤ L) :
    xw_Met G m_Model_spells F L 0 0 [.ref m, .int a, .int b, .int c, .int d] h (fun v h' => (∃ y : Int32, v = some (.int y) ∧ (y = 0 ∨ y = 1)) ∧ h = h') (fun _ _ => False) := by
  refine xw_Met.of rfl (by decide) (Nat.le_of_ble_eq_true rfl) ?_
  refine s_Model_spells_0 (fun z_1 => ?_) (fun z_2 => ?_)
  · skip
    refine s_Model_spells_9 (fun z_3 => ?_) (fun z_4 => ?_)
    · skip
      refine s_Model_spells_17 ?_
      refine s_Model_spells_18 l e g_to g_from (fun z_5 => ?_) (fun z_6 => ?_)
      · skip
        refine s_Model_spells_105 ?_
        refine s_Model_spells_106 rfl ?_
        exact ⟨⟨_, rfl, by simp⟩, rfl⟩
      · skip
        refine s_Model_spells_34 l e g_from ?_
        refine x_callV (As := [.int (nI x)]) (b := m) (rest := []) (F1 := 1) (L1 := 20) (mc := 0) (ms := 0) d_Model_spells_39 cV_Model_221 (f_q (x := x) l e g_askedSize g_asked e_asked (by omega) (by omega) (by omega) (by omega)) e ⟨by decide, rfl⟩ ⟨by omega, by show 8 + (2 + 11) + 20 ≤ _; omega⟩ ⟨by omega, by omega⟩ (Nat.le_of_ble_eq_true rfl) (fun v_8 h_7 p_9 => ?_)
        obtain ⟨rfl, rfl⟩ := p_9
        refine s_Model_spells_42 (fun z_10 => ?_) (fun z_11 => ?_)
        · skip
          refine s_Model_spells_105 ?_
          refine s_Model_spells_106 rfl ?_
          exact ⟨⟨_, rfl, by simp⟩, rfl⟩
        · skip
          refine s_Model_spells_46 l e g_from ?_
          rw [show (nI x) + 1 = nI (x + 1) from nI_1 _]
          refine x_callV (As := [.int (nI (x + 1))]) (b := m) (rest := []) (F1 := 1) (L1 := 20) (mc := 0) (ms := 0) d_Model_spells_53 cV_Model_221 (f_q (x := x + 1) l e g_askedSize g_asked e_asked (by omega) (by omega) (by omega) (by omega)) e ⟨by decide, rfl⟩ ⟨by omega, by show 8 + (2 + 11) + 20 ≤ _; omega⟩ ⟨by omega, by omega⟩ (Nat.le_of_ble_eq_true rfl) (fun v_13 h_12 p_14 => ?_)
          obtain ⟨rfl, rfl⟩ := p_14
          refine s_Model_spells_56 (fun z_15 => ?_) (fun z_16 => ?_)
          · skip
            refine s_Model_spells_105 ?_
            refine s_Model_spells_106 rfl ?_
            exact ⟨⟨_, rfl, by simp⟩, rfl⟩
          · skip
            refine s_Model_spells_60 (fun z_17 => ?_) (fun z => absurd z (by decide))
            refine s_Model_spells_80 (fun z_18 => ?_) (fun z => absurd z (by decide))
            refine s_Model_spells_101 ?_
            refine s_Model_spells_106 rfl ?_
            exact ⟨⟨_, rfl, by simp⟩, rfl⟩
    · skip
      refine s_Model_spells_13 ?_
      refine s_Model_spells_18 l e g_to g_from (fun z_19 => ?_) (fun z_20 => ?_)
      · skip
        refine s_Model_spells_105 ?_
        refine s_Model_spells_106 rfl ?_
        exact ⟨⟨_, rfl, by simp⟩, rfl⟩
      · skip
        refine s_Model_spells_34 l e g_from ?_
        refine x_callV (As := [.int (nI x)]) (b := m) (rest := []) (F1 := 1) (L1 := 20) (mc := 0) (ms := 0) d_Model_spells_39 cV_Model_221 (f_q (x := x) l e g_askedSize g_asked e_asked (by omega) (by omega) (by omega) (by omega)) e ⟨by decide, rfl⟩ ⟨by omega, by show 8 + (2 + 11) + 20 ≤ _; omega⟩ ⟨by omega, by omega⟩ (Nat.le_of_ble_eq_true rfl) (fun v_22 h_21 p_23 => ?_)
        obtain ⟨rfl, rfl⟩ := p_23
        refine s_Model_spells_42 (fun z_24 => ?_) (fun z_25 => ?_)
        · skip
          refine s_Model_spells_105 ?_
          refine s_Model_spells_106 rfl ?_
          exact ⟨⟨_, rfl, by simp⟩, rfl⟩
        · skip
          refine s_Model_spells_46 l e g_from ?_
          rw [show (nI x) + 1 = nI (x + 1) from nI_1 _]
          refine x_callV (As := [.int (nI (x + 1))]) (b := m) (rest := []) (F1 := 1) (L1 := 20) (mc := 0) (ms := 0) d_Model_spells_53 cV_Model_221 (f_q (x := x + 1) l e g_askedSize g_asked e_asked (by omega) (by omega) (by omega) (by omega)) e ⟨by decide, rfl⟩ ⟨by omega, by show 8 + (2 + 11) + 20 ≤ _; omega⟩ ⟨by omega, by omega⟩ (Nat.le_of_ble_eq_true rfl) (fun v_27 h_26 p_28 => ?_)
          obtain ⟨rfl, rfl⟩ := p_28
          refine s_Model_spells_56 (fun z_29 => ?_) (fun z_30 => ?_)
          · skip
            refine s_Model_spells_105 ?_
            refine s_Model_spells_106 rfl ?_
            exact ⟨⟨_, rfl, by simp⟩, rfl⟩
          · skip
            refine s_Model_spells_60 (fun z => absurd z (by decide)) (fun z_31 => ?_)
            refine s_Model_spells_66 l e g_from ?_
            rw [show (nI x) + 2 = nI (x + 2) from nI_2 _]
            refine x_callV (As := [.int (nI (x + 2))]) (b := m) (rest := []) (F1 := 1) (L1 := 20) (mc := 0) (ms := 0) d_Model_spells_73 cV_Model_221 (f_q (x := x + 2) l e g_askedSize g_asked e_asked (by omega) (by omega) (by omega) (by omega)) e ⟨by decide, rfl⟩ ⟨by omega, by show 8 + (2 + 11) + 20 ≤ _; omega⟩ ⟨by omega, by omega⟩ (Nat.le_of_ble_eq_true rfl) (fun v_33 h_32 p_34 => ?_)
            obtain ⟨rfl, rfl⟩ := p_34
            refine s_Model_spells_76 (fun z_35 => ?_) (fun z_36 => ?_)
            · skip
              refine s_Model_spells_105 ?_
              refine s_Model_spells_106 rfl ?_
              exact ⟨⟨_, rfl, by simp⟩, rfl⟩
            · skip
              refine s_Model_spells_80 (fun z_37 => ?_) (fun z => absurd z (by decide))
              refine s_Model_spells_101 ?_
              refine s_Model_spells_106 rfl ?_
              exact ⟨⟨_, rfl, by simp⟩, rfl⟩
  · skip
    refine s_Model_spells_5 ?_
    refine s_Model_spells_18 l e g_to g_from (fun z_38 => ?_) (fun z_39 => ?_)
    · skip
      refine s_Model_spells_105 ?_
      refine s_Model_spells_106 rfl ?_
      exact ⟨⟨_, rfl, by simp⟩, rfl⟩
    · skip
      refine s_Model_spells_34 l e g_from ?_
      refine x_callV (As := [.int (nI x)]) (b := m) (rest := []) (F1 := 1) (L1 := 20) (mc := 0) (ms := 0) d_Model_spells_39 cV_Model_221 (f_q (x := x) l e g_askedSize g_asked e_asked (by omega) (by omega) (by omega) (by omega)) e ⟨by decide, rfl⟩ ⟨by omega, by show 8 + (2 + 11) + 20 ≤ _; omega⟩ ⟨by omega, by omega⟩ (Nat.le_of_ble_eq_true rfl) (fun v_41 h_40 p_42 => ?_)
      obtain ⟨rfl, rfl⟩ := p_42
      refine s_Model_spells_42 (fun z_43 => ?_) (fun z_44 => ?_)
      · skip
        refine s_Model_spells_105 ?_
        refine s_Model_spells_106 rfl ?_
        exact ⟨⟨_, rfl, by simp⟩, rfl⟩
      · skip
        refine s_Model_spells_46 l e g_from ?_
        rw [show (nI x) + 1 = nI (x + 1) from nI_1 _]
        refine x_callV (As := [.int (nI (x + 1))]) (b := m) (rest := []) (F1 := 1) (L1 := 20) (mc := 0) (ms := 0) d_Model_spells_53 cV_Model_221 (f_q (x := x + 1) l e g_askedSize g_asked e_asked (by omega) (by omega) (by omega) (by omega)) e ⟨by decide, rfl⟩ ⟨by omega, by show 8 + (2 + 11) + 20 ≤ _; omega⟩ ⟨by omega, by omega⟩ (Nat.le_of_ble_eq_true rfl) (fun v_46 h_45 p_47 => ?_)
        obtain ⟨rfl, rfl⟩ := p_47
        refine s_Model_spells_56 (fun z_48 => ?_) (fun z_49 => ?_)
        · skip
          refine s_Model_spells_105 ?_
          refine s_Model_spells_106 rfl ?_
          exact ⟨⟨_, rfl, by simp⟩, rfl⟩
        · skip
          refine s_Model_spells_60 (fun z => absurd z (by decide)) (fun z_50 => ?_)
          refine s_Model_spells_66 l e g_from ?_
          rw [show (nI x) + 2 = nI (x + 2) from nI_2 _]
          refine x_callV (As := [.int (nI (x + 2))]) (b := m) (rest := []) (F1 := 1) (L1 := 20) (mc := 0) (ms := 0) d_Model_spells_73 cV_Model_221 (f_q (x := x + 2) l e g_askedSize g_asked e_asked (by omega) (by omega) (by omega) (by omega)) e ⟨by decide, rfl⟩ ⟨by omega, by show 8 + (2 + 11) + 20 ≤ _; omega⟩ ⟨by omega, by omega⟩ (Nat.le_of_ble_eq_true rfl) (fun v_52 h_51 p_53 => ?_)
          obtain ⟨rfl, rfl⟩ := p_53
          refine s_Model_spells_76 (fun z_54 => ?_) (fun z_55 => ?_)
          · skip
            refine s_Model_spells_105 ?_
            refine s_Model_spells_106 rfl ?_
            exact ⟨⟨_, rfl, by simp⟩, rfl⟩
          · skip
            refine s_Model_spells_80 (fun z => absurd z (by decide)) (fun z_56 => ?_)
            refine s_Model_spells_86 l e g_from ?_
            rw [show (nI x) + 3 = nI (x + 3) from nI_3 _]
            refine x_callV (As := [.int (nI (x + 3))]) (b := m) (rest := []) (F1 := 1) (L1 := 20) (mc := 0) (ms := 0) d_Model_spells_93 cV_Model_221 (f_q (x := x + 3) l e g_askedSize g_asked e_asked (by omega) (by omega) (by omega) (by omega)) e ⟨by decide, rfl⟩ ⟨by omega, by show 8 + (2 + 11) + 20 ≤ _; omega⟩ ⟨by omega, by omega⟩ (Nat.le_of_ble_eq_true rfl) (fun v_58 h_57 p_59 => ?_)
            obtain ⟨rfl, rfl⟩ := p_59
            refine x_le (xw_le_n (xw_le_n (xw_le_n (xw_le_n (xw_le_s (xw_le_n xw_le_e)))))) ?_
            refine s_Model_spells_96 (fun z_60 => ?_) (fun z_61 => ?_)
            · skip
              refine s_Model_spells_105 ?_
              refine s_Model_spells_106 rfl ?_
              exact ⟨⟨_, rfl, by simp⟩, rfl⟩
            · skip
              refine s_Model_spells_101 ?_
              refine s_Model_spells_106 rfl ?_
              exact ⟨⟨_, rfl, by simp⟩, rfl⟩
set_option maxHeartbeats 2000000 in
theorem lp_pt1 {G : xw_G} {F L bc bs : Nat} {pr : Option Value → xw_A → Prop} {px : String → xw_A → Prop} {m asked_ asz x0 : Nat} {gs : List Value} {fa : Nat → Int32} {h0 : xw_A} (q_asked : gs[(4 : Nat)]? = some (.ref asked_)) (q_askedSize : gs[(11 : Nat)]? = some (.int (nI asz))) (q_a : h0 asked_ = some (.inl (0, 96, .inl fa))) (q_m : ∃ f, h0 m = some (.inr (11, f))) (hasz : asz ≤ 96) (hF : 2 ≤ F) (hL : 41 ≤ L) (kk : ∀ (h : xw_A) (i : Nat) (fs : List Value), i < 98 → x0 ≤ i → fs.length = 62 → h m = some (.inr (11, fs)) → fs[(28 : Nat)]? = some (.int (nI i)) → (∀ i : Nat, i ∉ [28] → fs[i]? = gs[i]?) → FrO [m] h0 h → True → xw G m_Model_part F L bc bs pr px 26 [some (.ref m), none] [] h) :
    ∀ (dd i : Nat) (h : xw_A) (fs : List Value), 98 ≤ i + dd → i < 98 → fs.length = 62 → h m = some (.inr (11, fs)) → fs[(28 : Nat)]? = some (.int (nI i)) → (∀ i : Nat, i ∉ [28] → fs[i]? = gs[i]?) → FrO [m] h0 h → x0 ≤ i → xw G m_Model_part F L bc bs pr px 0 [some (.ref m), none] [] h := by
  intro dd
  induction dd with
  | zero =>
    intro i h fs hi hb l e g_k ga0 r0 hx0
    exact absurd hi (by omega)
  | succ dd ih =>
    intro i h fs hi hb l e g_k ga0 r0 hx0
    have g_asked := (ga0 4 (by decide)).trans q_asked
    have g_askedSize := (ga0 11 (by decide)).trans q_askedSize
    have e_asked := r0 asked_ _ (by obtain ⟨f, o⟩ := q_m; simp only [List.mem_cons, List.not_mem_nil, or_false, not_or]; exact xw_neC q_a o (by simp)) q_a
    refine s_Model_part_0 l e g_k ?_
    refine x_callV (As := [.int (nI i)]) (b := m) (rest := []) (F1 := 1) (L1 := 20) (mc := 0) (ms := 0) d_Model_part_5 cV_Model_221 (f_q (x := i) l e g_askedSize g_asked e_asked (by omega) (by omega) (by omega) (by omega)) e ⟨by decide, rfl⟩ ⟨by omega, by show 8 + (2 + 11) + 20 ≤ _; omega⟩ ⟨by omega, by omega⟩ (Nat.le_of_ble_eq_true rfl) (fun v_2 h_1 p_3 => ?_)
    obtain ⟨rfl, rfl⟩ := p_3
    refine s_Model_part_8 (fun z_4 => ?_) (fun z_5 => ?_)
    · skip
      exact kk _ _ _ hb hx0 l e g_k ga0 r0 trivial
    · skip
      refine s_Model_part_13 l e g_k ?_
      refine x_u1 (fun h_6 e_7 f_8 => ?_)
      have e_9 := (f_8 asked_ (xw_neC e_asked e (by simp))).trans e_asked
      have r_10 := r0.up (by simp) f_8
      obtain ⟨fs_11, z_12⟩ : ∃ z, z = fs.set 28 (.int ((nI i) + 1)) := ⟨_, rfl⟩
      rw [← z_12] at e_7
      have l_13 : fs_11.length = 62 := by rw [z_12]; simp only [List.length_set]; exact l
      have g_14 : fs_11[(4 : Nat)]? = some (.ref asked_) := by rw [z_12]; exact (xw_gn (by decide) g_asked)
      have g_15 : fs_11[(11 : Nat)]? = some (.int (nI asz)) := by rw [z_12]; exact (xw_gn (by decide) g_askedSize)
      have g_16 : fs_11[(28 : Nat)]? = some (.int ((nI i) + 1)) := by rw [z_12]; exact (xw_gs (by simp [l]))
      have ga_17 : ∀ i : Nat, i ∉ [28] → fs_11[i]? = gs[i]? := fun i hi => by rw [z_12]; exact xw_gn (fun z => hi (by rw [z]; simp)) (ga0 i hi)
      clear z_12
      rw [nI_1] at g_16
      have hlt : i < asz := qv_lt (fun q => absurd (z_5.symm.trans q) (by decide))
      exact ih (i + 1) _ _ (by omega) (by omega) l_13 e_7 g_16 ga_17 r_10 (by omega)
set_option maxHeartbeats 2000000 in
theorem lp_pt2 {G : xw_G} {F L bc bs : Nat} {pr : Option Value → xw_A → Prop} {px : String → xw_A → Prop} {m asked_ asz x0 : Nat} {gs : List Value} {fa : Nat → Int32} {h0 : xw_A} (q_asked : gs[(4 : Nat)]? = some (.ref asked_)) (q_askedSize : gs[(11 : Nat)]? = some (.int (nI asz))) (q_a : h0 asked_ = some (.inl (0, 96, .inl fa))) (q_m : ∃ f, h0 m = some (.inr (11, f))) (hasz : asz ≤ 96) (hF : 3 ≤ F) (hL : 62 ≤ L) (kk : ∀ (h : xw_A) (i : Nat) (fs : List Value), i < 98 → x0 ≤ i → fs.length = 62 → h m = some (.inr (11, fs)) → fs[(31 : Nat)]? = some (.int (nI i)) → (∀ i : Nat, i ∉ [31] → fs[i]? = gs[i]?) → FrO [m] h0 h → isW (qv fa asz i) = false → xw G m_Model_part F L bc bs pr px 114 [some (.ref m), none] [] h) :
    ∀ (dd i : Nat) (h : xw_A) (fs : List Value), 98 ≤ i + dd → i < 98 → fs.length = 62 → h m = some (.inr (11, fs)) → fs[(31 : Nat)]? = some (.int (nI i)) → (∀ i : Nat, i ∉ [31] → fs[i]? = gs[i]?) → FrO [m] h0 h → x0 ≤ i → xw G m_Model_part F L bc bs pr px 87 [some (.ref m), none] [] h := by
  intro dd
  induction dd with
  | zero =>
    intro i h fs hi hb l e g_k ga0 r0 hx0
    exact absurd hi (by omega)
  | succ dd ih =>
    intro i h fs hi hb l e g_k ga0 r0 hx0
    have g_asked := (ga0 4 (by decide)).trans q_asked
    have g_askedSize := (ga0 11 (by decide)).trans q_askedSize
    have e_asked := r0 asked_ _ (by obtain ⟨f, o⟩ := q_m; simp only [List.mem_cons, List.not_mem_nil, or_false, not_or]; exact xw_neC q_a o (by simp)) q_a
    refine s_Model_part_87 l e g_k ?_
    refine x_callV (As := [.int (nI i)]) (b := m) (rest := []) (F1 := 1) (L1 := 20) (mc := 0) (ms := 0) d_Model_part_92 cV_Model_221 (f_q (x := i) l e g_askedSize g_asked e_asked (by omega) (by omega) (by omega) (by omega)) e ⟨by decide, rfl⟩ ⟨by omega, by show 8 + (2 + 11) + 20 ≤ _; omega⟩ ⟨by omega, by omega⟩ (Nat.le_of_ble_eq_true rfl) (fun v_2 h_1 p_3 => ?_)
    obtain ⟨rfl, rfl⟩ := p_3
    refine x_callS (As := [.int (qv fa asz i)]) (rest := []) (F1 := 2) (L1 := 42) (mc := 0) (ms := 0) d_Model_part_95 cS_Model_146 (f_isSign (by omega) (by omega)) ⟨by omega, by show 8 + (1 + 11) + 42 ≤ _; omega⟩ ⟨by omega, by omega⟩ (Nat.le_of_ble_eq_true rfl) (fun v_5 h_4 p_6 => ?_)
    obtain ⟨rfl, rfl⟩ := p_6
    refine s_Model_part_98 (fun z_7 => ?_) (fun z_8 => ?_)
    · skip
      exact kk _ _ _ hb hx0 l e g_k ga0 r0 (b01_f z_7)
    · skip
      refine s_Model_part_101 l e g_k ?_
      refine x_u1 (fun h_9 e_10 f_11 => ?_)
      have e_12 := (f_11 asked_ (xw_neC e_asked e (by simp))).trans e_asked
      have r_13 := r0.up (by simp) f_11
      obtain ⟨fs_14, z_15⟩ : ∃ z, z = fs.set 31 (.int ((nI i) + 1)) := ⟨_, rfl⟩
      rw [← z_15] at e_10
      have l_16 : fs_14.length = 62 := by rw [z_15]; simp only [List.length_set]; exact l
      have g_17 : fs_14[(4 : Nat)]? = some (.ref asked_) := by rw [z_15]; exact (xw_gn (by decide) g_asked)
      have g_18 : fs_14[(11 : Nat)]? = some (.int (nI asz)) := by rw [z_15]; exact (xw_gn (by decide) g_askedSize)
      have g_19 : fs_14[(31 : Nat)]? = some (.int ((nI i) + 1)) := by rw [z_15]; exact (xw_gs (by simp [l]))
      have ga_20 : ∀ i : Nat, i ∉ [31] → fs_14[i]? = gs[i]? := fun i hi => by rw [z_15]; exact xw_gn (fun z => hi (by rw [z]; simp)) (ga0 i hi)
      clear z_15
      rw [nI_1] at g_19
      have hlt : i < asz := qs_lt (b01_t z_8)
      exact ih (i + 1) _ _ (by omega) (by omega) l_16 e_10 g_19 ga_20 r_13 (by omega)
set_option maxHeartbeats 2000000 in
theorem lp_pt3 {G : xw_G} {F L bc bs : Nat} {pr : Option Value → xw_A → Prop} {px : String → xw_A → Prop} {m asked_ asz x0 : Nat} {gs : List Value} {fa : Nat → Int32} {h0 : xw_A} (q_asked : gs[(4 : Nat)]? = some (.ref asked_)) (q_askedSize : gs[(11 : Nat)]? = some (.int (nI asz))) (q_a : h0 asked_ = some (.inl (0, 96, .inl fa))) (q_m : ∃ f, h0 m = some (.inr (11, f))) (hasz : asz ≤ 96) (hF : 2 ≤ F) (hL : 41 ≤ L) (kk : ∀ (h : xw_A) (i : Nat) (fs : List Value), i < 98 → x0 ≤ i → fs.length = 62 → h m = some (.inr (11, fs)) → fs[(31 : Nat)]? = some (.int (nI i)) → (∀ i : Nat, i ∉ [31] → fs[i]? = gs[i]?) → FrO [m] h0 h → (i ≤ asz ∧ (asz ≤ i ∨ qv fa asz i = 34)) → xw G m_Model_part F L bc bs pr px 241 [some (.ref m), none] [] h) :
    ∀ (dd i : Nat) (h : xw_A) (fs : List Value), 98 ≤ i + dd → i < 98 → fs.length = 62 → h m = some (.inr (11, fs)) → fs[(31 : Nat)]? = some (.int (nI i)) → (∀ i : Nat, i ∉ [31] → fs[i]? = gs[i]?) → FrO [m] h0 h → x0 ≤ i ∧ i ≤ asz → xw G m_Model_part F L bc bs pr px 204 [some (.ref m), none] [] h := by
  intro dd
  induction dd with
  | zero =>
    intro i h fs hi hb l e g_k ga0 r0 hx0
    exact absurd hi (by omega)
  | succ dd ih =>
    intro i h fs hi hb l e g_k ga0 r0 hx0
    have g_asked := (ga0 4 (by decide)).trans q_asked
    have g_askedSize := (ga0 11 (by decide)).trans q_askedSize
    have e_asked := r0 asked_ _ (by obtain ⟨f, o⟩ := q_m; simp only [List.mem_cons, List.not_mem_nil, or_false, not_or]; exact xw_neC q_a o (by simp)) q_a
    refine s_Model_part_204 l e g_k g_askedSize (fun z_1 => ?_) (fun z_2 => ?_)
    · skip
      exact kk _ _ _ hb hx0.1 l e g_k ga0 r0 ⟨hx0.2, Or.inl (Nat.le_of_not_lt (fun q => absurd z_1 (nI_ge (b := asz) q (by omega))))⟩
    · skip
      refine s_Model_part_215 l e g_k ?_
      refine x_callV (As := [.int (nI i)]) (b := m) (rest := []) (F1 := 1) (L1 := 20) (mc := 0) (ms := 0) d_Model_part_220 cV_Model_221 (f_q (x := i) l e g_askedSize g_asked e_asked (by omega) (by omega) (by omega) (by omega)) e ⟨by decide, rfl⟩ ⟨by omega, by show 8 + (2 + 11) + 20 ≤ _; omega⟩ ⟨by omega, by omega⟩ (Nat.le_of_ble_eq_true rfl) (fun v_4 h_3 p_5 => ?_)
      obtain ⟨rfl, rfl⟩ := p_5
      refine s_Model_part_223 (fun z_6 => ?_) (fun z_7 => ?_)
      · skip
        exact kk _ _ _ hb hx0.1 l e g_k ga0 r0 ⟨hx0.2, Or.inr z_6⟩
      · skip
        refine s_Model_part_228 l e g_k ?_
        refine x_u1 (fun h_8 e_9 f_10 => ?_)
        have e_11 := (f_10 asked_ (xw_neC e_asked e (by simp))).trans e_asked
        have r_12 := r0.up (by simp) f_10
        obtain ⟨fs_13, z_14⟩ : ∃ z, z = fs.set 31 (.int ((nI i) + 1)) := ⟨_, rfl⟩
        rw [← z_14] at e_9
        have l_15 : fs_13.length = 62 := by rw [z_14]; simp only [List.length_set]; exact l
        have g_16 : fs_13[(4 : Nat)]? = some (.ref asked_) := by rw [z_14]; exact (xw_gn (by decide) g_asked)
        have g_17 : fs_13[(11 : Nat)]? = some (.int (nI asz)) := by rw [z_14]; exact (xw_gn (by decide) g_askedSize)
        have g_18 : fs_13[(31 : Nat)]? = some (.int ((nI i) + 1)) := by rw [z_14]; exact (xw_gs (by simp [l]))
        have ga_19 : ∀ i : Nat, i ∉ [31] → fs_13[i]? = gs[i]? := fun i hi => by rw [z_14]; exact xw_gn (fun z => hi (by rw [z]; simp)) (ga0 i hi)
        clear z_14
        rw [nI_1] at g_18
        have hlt : i < asz := Nat.lt_of_not_le (fun q => z_2 (nI_le q (by omega)))
        exact ih (i + 1) _ _ (by omega) (by omega) l_15 e_9 g_18 ga_19 r_12 (by omega)
