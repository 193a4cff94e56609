/-! the reference in general states: by program (wip/tools/gen3.py, gen4.py, gen5.py) -/
set_option maxHeartbeats 400000 in
theorem f_inB {G : xw_G} {F L : Nat} {h : xw_A} {x lo hi : Int32} (hF : 1 ≤ F) (hL : 20 ≤ L) :
    xw_Met G m_Model_in F L 0 0 [.int x, .int lo, .int hi] h (fun v h' => v = some (.int (b01 (decide (¬ x < lo) && decide (¬ hi < x)))) ∧ h = h') (fun _ _ => False) := by
  refine xw_Met.of rfl (by decide) (Nat.le_of_ble_eq_true rfl) ?_
  refine s_Model_in_0 (fun z_1 => ?_) (fun z_2 => ?_)
  · skip
    refine s_Model_in_14 ?_
    refine s_Model_in_15 rfl ?_
    exact ⟨congrArg (fun z => some (Value.int z)) (by simp [b01, *]), rfl⟩
  · skip
    refine s_Model_in_5 (fun z_3 => ?_) (fun z_4 => ?_)
    · skip
      refine s_Model_in_14 ?_
      refine s_Model_in_15 rfl ?_
      exact ⟨congrArg (fun z => some (Value.int z)) (by simp [b01, *]), rfl⟩
    · skip
      refine s_Model_in_10 ?_
      refine s_Model_in_15 rfl ?_
      exact ⟨congrArg (fun z => some (Value.int z)) (by simp [b01, *]), rfl⟩
theorem i32_nlt_le {x y : Int32} : (¬ y < x) ↔ x ≤ y := Int32.not_lt
set_option maxHeartbeats 400000 in
theorem f_isSign {G : xw_G} {F L : Nat} {h : xw_A} {c : Int32} (hF : 2 ≤ F) (hL : 42 ≤ L) :
    xw_Met G m_Model_isSign F L 0 0 [.int c] h (fun v h' => v = some (.int (b01 (isW c))) ∧ h = h') (fun _ _ => False) := by
  refine xw_Met.of rfl (by decide) (Nat.le_of_ble_eq_true rfl) ?_
  refine s_Model_isSign_0 ?_
  refine x_callS (As := [.int c, .int 97, .int 122]) (rest := []) (F1 := 1) (L1 := 20) (mc := 0) (ms := 0) d_Model_isSign_5 cS_Model_133 (f_inB (by omega) (by omega)) ⟨by omega, by show 8 + (3 + 11) + 20 ≤ _; omega⟩ ⟨by omega, by omega⟩ (Nat.le_of_ble_eq_true rfl) (fun v_2 h_1 p_3 => ?_)
  obtain ⟨rfl, rfl⟩ := p_3
  refine s_Model_isSign_8 (fun z_4 => ?_) (fun z_5 => ?_)
  · skip
    refine s_Model_isSign_33 ?_
    refine s_Model_isSign_38 rfl ?_
    exact ⟨congrArg (fun z => some (Value.int z)) (by simp only [b01, isW, i32_nlt_le] at *; simp_all), rfl⟩
  · skip
    refine s_Model_isSign_11 ?_
    refine x_callS (As := [.int c, .int 65, .int 90]) (rest := []) (F1 := 1) (L1 := 20) (mc := 0) (ms := 0) d_Model_isSign_16 cS_Model_133 (f_inB (by omega) (by omega)) ⟨by omega, by show 8 + (3 + 11) + 20 ≤ _; omega⟩ ⟨by omega, by omega⟩ (Nat.le_of_ble_eq_true rfl) (fun v_7 h_6 p_8 => ?_)
    obtain ⟨rfl, rfl⟩ := p_8
    refine s_Model_isSign_19 (fun z_9 => ?_) (fun z_10 => ?_)
    · skip
      refine s_Model_isSign_33 ?_
      refine s_Model_isSign_38 rfl ?_
      exact ⟨congrArg (fun z => some (Value.int z)) (by simp only [b01, isW, i32_nlt_le] at *; simp_all), rfl⟩
    · skip
      refine s_Model_isSign_22 ?_
      refine x_callS (As := [.int c, .int 48, .int 57]) (rest := []) (F1 := 1) (L1 := 20) (mc := 0) (ms := 0) d_Model_isSign_27 cS_Model_133 (f_inB (by omega) (by omega)) ⟨by omega, by show 8 + (3 + 11) + 20 ≤ _; omega⟩ ⟨by omega, by omega⟩ (Nat.le_of_ble_eq_true rfl) (fun v_12 h_11 p_13 => ?_)
      obtain ⟨rfl, rfl⟩ := p_13
      refine x_le (xw_le_n xw_le_e) ?_
      refine s_Model_isSign_30 (fun z_14 => ?_) (fun z_15 => ?_)
      · skip
        refine s_Model_isSign_37 ?_
        refine s_Model_isSign_38 rfl ?_
        exact ⟨congrArg (fun z => some (Value.int z)) (by simp only [b01, isW, i32_nlt_le] at *; simp_all), rfl⟩
      · skip
        refine s_Model_isSign_33 ?_
        refine s_Model_isSign_38 rfl ?_
        exact ⟨congrArg (fun z => some (Value.int z)) (by simp only [b01, isW, i32_nlt_le] at *; simp_all), rfl⟩
theorem inB_t {x lo hi : Int32} (h : ¬ b01 (decide (¬ x < lo) && decide (¬ hi < x)) = 0) : ¬ x < lo ∧ ¬ hi < x := by
  have h9 := b01_t h
  simp only [Bool.and_eq_true, decide_eq_true_eq] at h9
  exact h9
theorem inB_f {x lo hi : Int32} (h : b01 (decide (¬ x < lo) && decide (¬ hi < x)) = 0) : x < lo ∨ hi < x := by
  have h9 := b01_f h
  by_cases q : x < lo
  · exact Or.inl q
  · by_cases q2 : hi < x
    · exact Or.inr q2
    · simp [q, q2] at h9
set_option maxHeartbeats 400000 in
theorem f_small {G : xw_G} {F L : Nat} {h : xw_A} {c : Int32} (hF : 2 ≤ F) (hL : 42 ≤ L) :
    xw_Met G m_Model_small F L 0 0 [.int c] h (fun v h' => v = some (.int (lowc c)) ∧ h = h') (fun _ _ => False) := by
  refine xw_Met.of rfl (by decide) (Nat.le_of_ble_eq_true rfl) ?_
  refine s_Model_small_0 ?_
  refine x_callS (As := [.int c, .int 65, .int 90]) (rest := []) (F1 := 1) (L1 := 20) (mc := 0) (ms := 0) d_Model_small_5 cS_Model_133 (f_inB (by omega) (by omega)) ⟨by omega, by show 8 + (3 + 11) + 20 ≤ _; omega⟩ ⟨by omega, by omega⟩ (Nat.le_of_ble_eq_true rfl) (fun v_2 h_1 p_3 => ?_)
  obtain ⟨rfl, rfl⟩ := p_3
  refine s_Model_small_8 (fun z_4 => ?_) (fun z_5 => ?_)
  · skip
    refine s_Model_small_18 ?_
    refine s_Model_small_19 ?_
    exact ⟨congrArg (fun z => some (Value.int z)) (by rw [lowc, if_neg (fun y => (inB_f z_4).elim y.1 y.2)]), rfl⟩
  · skip
    refine s_Model_small_11 ?_
    refine s_Model_small_19 ?_
    exact ⟨congrArg (fun z => some (Value.int z)) (by rw [lowc, if_pos (inB_t z_5)]), rfl⟩
set_option maxHeartbeats 2000000 in
theorem lp_opens {G : xw_G} {F L bc bs : Nat} {pr : Option Value → xw_A → Prop} {px : String → xw_A → Prop} {m texts_ begins_ lasts_ b n : Nat} {gs : List Value} {ft : Nat → Int32} {h0 : xw_A} (nbl : begins_ ≠ lasts_) (q_texts : gs[(7 : Nat)]? = some (.ref texts_)) (q_begins : gs[(53 : Nat)]? = some (.ref begins_)) (q_lasts : gs[(54 : Nat)]? = some (.ref lasts_)) (q_t : h0 texts_ = some (.inl (0, 2304, .inl ft))) (ntb : texts_ ≠ begins_ ∧ texts_ ≠ lasts_ ∧ texts_ ≠ m) (hbn : b + n ≤ 2304) (hn : n ≤ 48) (hF : 3 ≤ F) (hL : 62 ≤ L) (kk : ∀ (h : xw_A) (k : Nat) (fb fl : Nat → Int32) (fs : List Value), fs.length = 62 → h m = some (.inr (11, fs)) → fs[(55 : Nat)]? = some (.int (nI k)) → (∀ i : Nat, i ∉ [55] → fs[i]? = gs[i]?) → h begins_ = some (.inl (0, 24, .inl fb)) → h lasts_ = some (.inl (0, 24, .inl fl)) → TokW fb fl k b n → k = tokN (fun j => ft (b + j)) n → TokX ft b fb fl n → FrO [m, begins_, lasts_] h0 h → pr none h) :
    ∀ (dd i : Nat) (h : xw_A) (k : Nat) (fb : Nat → Int32) (fl : Nat → Int32) (fs : List Value), i + dd = n → fs.length = 62 → h m = some (.inr (11, fs)) → fs[(55 : Nat)]? = some (.int (nI k)) → (∀ i : Nat, i ∉ [55] → fs[i]? = gs[i]?) → h begins_ = some (.inl (0, 24, .inl fb)) → h lasts_ = some (.inl (0, 24, .inl fl)) → TokW fb fl k b i → k = tokN (fun j => ft (b + j)) i → TokX ft b fb fl i → FrO [m, begins_, lasts_] h0 h → xw G m_Model_opens F L bc bs pr px 30 [some (.ref m), none, none, some (.int (nI b)), some (.int (nI n)), some (.int (nI i))] [] h := by
  intro dd
  induction dd with
  | zero =>
    intro i h k fb fl fs hi l e g_column ga0 e_begins e_lasts TW hk TX r0
    obtain rfl : i = n := by omega
    have g_texts := (ga0 7 (by decide)).trans q_texts
    have g_begins := (ga0 53 (by decide)).trans q_begins
    have g_lasts := (ga0 54 (by decide)).trans q_lasts
    have e_texts := r0 texts_ _ (by simp only [List.mem_cons, List.not_mem_nil, or_false, not_or]; exact ⟨ntb.2.2, ntb.1, ntb.2.1⟩) q_t
    refine s_Model_opens_30 (fun z_1 => ?_) (fun z => absurd (nI_le (Nat.le_refl _) (by omega)) z)
    refine s_Model_opens_123 ?_
    exact kk _ _ _ _ _ l e g_column ga0 e_begins e_lasts TW hk TX r0
  | succ dd ih =>
    intro i h k fb fl fs hi l e g_column ga0 e_begins e_lasts TW hk TX r0
    have g_texts := (ga0 7 (by decide)).trans q_texts
    have g_begins := (ga0 53 (by decide)).trans q_begins
    have g_lasts := (ga0 54 (by decide)).trans q_lasts
    have e_texts := r0 texts_ _ (by simp only [List.mem_cons, List.not_mem_nil, or_false, not_or]; exact ⟨ntb.2.2, ntb.1, ntb.2.1⟩) q_t
    refine s_Model_opens_30 (fun z => absurd z (nI_ge (b := n) (show i < n by omega) (by omega))) (fun z_1 => ?_)
    refine s_Model_opens_37 l e g_texts e_texts (by rw [nI_add]; exact vp_in_nI (by omega) (by decide)) ?_
    rw [show ft (nI b + nI i).toNatClampNeg = ft (b + i) by rw [nI_add, nI_clamp (by omega)]]
    refine x_callS (As := [.int (ft (b + i))]) (rest := []) (F1 := 2) (L1 := 42) (mc := 0) (ms := 0) d_Model_opens_46 cS_Model_146 (f_isSign (by omega) (by omega)) ⟨by omega, by show 8 + (1 + 11) + 42 ≤ _; omega⟩ ⟨by omega, by omega⟩ (Nat.le_of_ble_eq_true rfl) (fun v_3 h_2 p_4 => ?_)
    obtain ⟨rfl, rfl⟩ := p_4
    refine s_Model_opens_49 (fun z_5 => ?_) (fun z_6 => ?_)
    · skip
      refine s_Model_opens_55 (fun z_7 => ?_) (fun z_8 => ?_)
      · skip
        have hnew : i = 0 ∨ isW (ft (b + (i - 1))) = false := Or.inl ((nI_eq (by omega) (by decide)).mp z_7)
        have hk2 : 2 * k ≤ i := by rw [hk]; exact (tokN_half _ i).2 hnew
        refine s_Model_opens_77 l e g_begins g_column e_begins (vp_in_nI (by omega) (by decide)) ?_
        refine x_u2 (fun h_9 e_10 f_11 h_12 e_13 f_14 => ?_)
        have e_15 := (f_11 texts_ ntb.1).trans e_texts
        have e_16 := (f_11 lasts_ (Ne.symm nbl)).trans e_lasts
        have e_17 := (f_11 m (xw_neC e e_begins (by simp))).trans e
        have r_18 := r0.up (by simp) f_11
        have e_19 := (f_14 texts_ (xw_neC e_15 e_17 (by simp))).trans e_15
        have e_20 := (f_14 begins_ (xw_neC e_10 e_17 (by simp))).trans e_10
        have e_21 := (f_14 lasts_ (xw_neC e_16 e_17 (by simp))).trans e_16
        have r_22 := r_18.up (by simp) f_14
        obtain ⟨fs_23, z_24⟩ : ∃ z, z = fs.set 55 (.int ((nI k) + 1)) := ⟨_, rfl⟩
        rw [← z_24] at e_13
        have l_25 : fs_23.length = 62 := by rw [z_24]; simp only [List.length_set]; exact l
        have g_26 : fs_23[(7 : Nat)]? = some (.ref texts_) := by rw [z_24]; exact (xw_gn (by decide) g_texts)
        have g_27 : fs_23[(53 : Nat)]? = some (.ref begins_) := by rw [z_24]; exact (xw_gn (by decide) g_begins)
        have g_28 : fs_23[(54 : Nat)]? = some (.ref lasts_) := by rw [z_24]; exact (xw_gn (by decide) g_lasts)
        have g_29 : fs_23[(55 : Nat)]? = some (.int ((nI k) + 1)) := by rw [z_24]; exact (xw_gs (by simp [l]))
        have ga_30 : ∀ i : Nat, i ∉ [55] → fs_23[i]? = gs[i]? := fun i hi => by rw [z_24]; exact xw_gn (fun z => hi (by rw [z]; simp)) (ga0 i hi)
        clear z_24
        rw [nI_1] at g_29
        refine s_Model_opens_100 l_25 e_13 g_28 g_29 e_21 (by rw [nI_pred]; exact vp_in_nI (by omega) (by decide)) ?_
        refine x_u1 (fun h_31 e_32 f_33 => ?_)
        have e_34 := (f_33 texts_ ntb.2.1).trans e_19
        have e_35 := (f_33 begins_ nbl).trans e_20
        have e_36 := (f_33 m (xw_neC e_13 e_21 (by simp))).trans e_13
        have r_37 := r_22.up (by simp) f_33
        refine s_Model_opens_117 ?_
        rw [nI_1]
        have hyes := b01_t z_5
        rw [nI_add, nI_1, nI_pred, nI_clamp (by omega)] at e_32
        rw [nI_add, nI_clamp (by omega)] at e_35
        exact ih (i + 1) _ _ _ _ _ (by omega) l_25 e_36 g_29 ga_30 e_35 e_32 TW.new (by rw [tokN_y (t := fun j => ft (b + j)) (i := i) hyes hnew, ← hk]) (TX.new hyes hnew hk) r_37
      · skip
        have hi0 : ¬ i = 0 := fun q => z_8 (by rw [q]; rfl)
        refine s_Model_opens_60 l e g_texts e_texts (by rw [nI_add, show (1 : Int32) = nI 1 from rfl, pk_sub (by omega)]; exact vp_in_nI (by omega) (by decide)) ?_
        rw [show ft (nI b + nI i - 1).toNatClampNeg = ft (b + (i - 1)) by rw [nI_add, show (1 : Int32) = nI 1 from rfl, pk_sub (by omega), nI_clamp (by omega)]; congr 1; omega]
        refine x_callS (As := [.int (ft (b + (i - 1)))]) (rest := []) (F1 := 2) (L1 := 42) (mc := 0) (ms := 0) d_Model_opens_71 cS_Model_146 (f_isSign (by omega) (by omega)) ⟨by omega, by show 8 + (1 + 11) + 42 ≤ _; omega⟩ ⟨by omega, by omega⟩ (Nat.le_of_ble_eq_true rfl) (fun v_39 h_38 p_40 => ?_)
        obtain ⟨rfl, rfl⟩ := p_40
        refine s_Model_opens_74 (fun z_41 => ?_) (fun z_42 => ?_)
        · skip
          have hold : isW (ft (b + (i - 1))) = true := b01_t z_41
          obtain ⟨k0, rfl⟩ : ∃ k0, k = k0 + 1 := by have h9 := tokN_pos (fun j => ft (b + j)) (i - 1) hold; rw [show i - 1 + 1 = i by omega, ← hk] at h9; exact ⟨k - 1, by omega⟩
          have hk3 : 2 * (k0 + 1) ≤ i + 1 := by rw [hk]; exact (tokN_half _ i).1
          refine s_Model_opens_100 l e g_lasts g_column e_lasts (by rw [nI_pred]; exact vp_in_nI (by omega) (by decide)) ?_
          refine x_u1 (fun h_43 e_44 f_45 => ?_)
          have e_46 := (f_45 texts_ ntb.2.1).trans e_texts
          have e_47 := (f_45 begins_ nbl).trans e_begins
          have e_48 := (f_45 m (xw_neC e e_lasts (by simp))).trans e
          have r_49 := r0.up (by simp) f_45
          refine s_Model_opens_117 ?_
          rw [nI_1]
          have hyes := b01_t z_5
          rw [nI_add, nI_1, nI_pred, nI_clamp (by omega)] at e_44
          exact ih (i + 1) _ _ _ _ _ (by omega) l e_48 g_column ga0 e_47 e_44 TW.ext (by rw [tokN_n (t := fun j => ft (b + j)) (i := i) (Or.inr ⟨hi0, hold⟩)]; exact hk) (TX.ext hyes hi0 hold hk) r_49
        · skip
          have hnew : i = 0 ∨ isW (ft (b + (i - 1))) = false := Or.inr (b01_f z_42)
          have hk2 : 2 * k ≤ i := by rw [hk]; exact (tokN_half _ i).2 hnew
          refine s_Model_opens_77 l e g_begins g_column e_begins (vp_in_nI (by omega) (by decide)) ?_
          refine x_u2 (fun h_50 e_51 f_52 h_53 e_54 f_55 => ?_)
          have e_56 := (f_52 texts_ ntb.1).trans e_texts
          have e_57 := (f_52 lasts_ (Ne.symm nbl)).trans e_lasts
          have e_58 := (f_52 m (xw_neC e e_begins (by simp))).trans e
          have r_59 := r0.up (by simp) f_52
          have e_60 := (f_55 texts_ (xw_neC e_56 e_58 (by simp))).trans e_56
          have e_61 := (f_55 begins_ (xw_neC e_51 e_58 (by simp))).trans e_51
          have e_62 := (f_55 lasts_ (xw_neC e_57 e_58 (by simp))).trans e_57
          have r_63 := r_59.up (by simp) f_55
          obtain ⟨fs_64, z_65⟩ : ∃ z, z = fs.set 55 (.int ((nI k) + 1)) := ⟨_, rfl⟩
          rw [← z_65] at e_54
          have l_66 : fs_64.length = 62 := by rw [z_65]; simp only [List.length_set]; exact l
          have g_67 : fs_64[(7 : Nat)]? = some (.ref texts_) := by rw [z_65]; exact (xw_gn (by decide) g_texts)
          have g_68 : fs_64[(53 : Nat)]? = some (.ref begins_) := by rw [z_65]; exact (xw_gn (by decide) g_begins)
          have g_69 : fs_64[(54 : Nat)]? = some (.ref lasts_) := by rw [z_65]; exact (xw_gn (by decide) g_lasts)
          have g_70 : fs_64[(55 : Nat)]? = some (.int ((nI k) + 1)) := by rw [z_65]; exact (xw_gs (by simp [l]))
          have ga_71 : ∀ i : Nat, i ∉ [55] → fs_64[i]? = gs[i]? := fun i hi => by rw [z_65]; exact xw_gn (fun z => hi (by rw [z]; simp)) (ga0 i hi)
          clear z_65
          rw [nI_1] at g_70
          refine s_Model_opens_100 l_66 e_54 g_69 g_70 e_62 (by rw [nI_pred]; exact vp_in_nI (by omega) (by decide)) ?_
          refine x_u1 (fun h_72 e_73 f_74 => ?_)
          have e_75 := (f_74 texts_ ntb.2.1).trans e_60
          have e_76 := (f_74 begins_ nbl).trans e_61
          have e_77 := (f_74 m (xw_neC e_54 e_62 (by simp))).trans e_54
          have r_78 := r_63.up (by simp) f_74
          refine s_Model_opens_117 ?_
          rw [nI_1]
          have hyes := b01_t z_5
          rw [nI_add, nI_1, nI_pred, nI_clamp (by omega)] at e_73
          rw [nI_add, nI_clamp (by omega)] at e_76
          exact ih (i + 1) _ _ _ _ _ (by omega) l_66 e_77 g_70 ga_71 e_76 e_73 TW.new (by rw [tokN_y (t := fun j => ft (b + j)) (i := i) hyes hnew, ← hk]) (TX.new hyes hnew hk) r_78
    · skip
      refine s_Model_opens_52 ?_
      refine s_Model_opens_117 ?_
      rw [nI_1]
      have hno := b01_f z_6
      exact ih (i + 1) _ _ _ _ _ (by omega) l e g_column ga0 e_begins e_lasts TW.mono (by rw [tokN_n (t := fun j => ft (b + j)) (i := i) (Or.inl hno)]; exact hk) (TX.no hno) r0
set_option maxHeartbeats 1000000 in
theorem f_opens {G : xw_G} {F L : Nat} {h : xw_A} {cl : Int32} {ft fz fb fl : Nat → Int32} {texts_ sizes_ begins_ lasts_ : Nat} {m : Nat} {fs : List Value} (l : fs.length = 62) (e : h m = some (.inr (11, fs))) (g_column : fs[(55 : Nat)]? = some (.int cl)) (g_texts : fs[(7 : Nat)]? = some (.ref texts_)) (e_texts : h texts_ = some (.inl (0, 2304, .inl (ft)))) (g_sizes : fs[(8 : Nat)]? = some (.ref sizes_)) (e_sizes : h sizes_ = some (.inl (0, 48, .inl (fz)))) (g_begins : fs[(53 : Nat)]? = some (.ref begins_)) (e_begins : h begins_ = some (.inl (0, 24, .inl (fb)))) (g_lasts : fs[(54 : Nat)]? = some (.ref lasts_)) (e_lasts : h lasts_ = some (.inl (0, 24, .inl (fl)))) (n_begins_lasts : begins_ ≠ lasts_) {r c n : Nat} (hr : r < 24) (hc : c < 2) (hn : fz (2 * r + c) = nI n) (hn48 : n ≤ 48) (hF : 3 ≤ F) (hL : 62 ≤ L) :
    xw_Met G m_Model_opens F L 0 0 [.ref m, .int (nI r), .int (nI c)] h (fun v h' => v = none ∧ OpP m begins_ lasts_ fs ft (96 * r + 48 * c) n h h') (fun _ _ => False) := by
  refine xw_Met.of rfl (by decide) (Nat.le_of_ble_eq_true rfl) ?_
  have ga0 : ∀ i : Nat, i ∉ [55] → fs[i]? = fs[i]? := fun _ _ => rfl
  have r0 : FrO [m, begins_, lasts_] h h := FrO.rf
  refine s_Model_opens_0 l e g_sizes e_sizes (by rw [show (2 : Int32) = nI 2 from rfl, pk_mul, nI_add]; exact vp_in_nI (by omega) (by decide)) ?_
  refine x_u1 (fun h_1 e_2 f_3 => ?_)
  have e_4 := (f_3 texts_ (xw_neC e_texts e (by simp))).trans e_texts
  have e_5 := (f_3 sizes_ (xw_neC e_sizes e (by simp))).trans e_sizes
  have e_6 := (f_3 begins_ (xw_neC e_begins e (by simp))).trans e_begins
  have e_7 := (f_3 lasts_ (xw_neC e_lasts e (by simp))).trans e_lasts
  have r_8 := r0.up (by simp) f_3
  obtain ⟨fs_9, z_10⟩ : ∃ z, z = fs.set 55 (.int 0) := ⟨_, rfl⟩
  rw [← z_10] at e_2
  have l_11 : fs_9.length = 62 := by rw [z_10]; simp only [List.length_set]; exact l
  have g_12 : fs_9[(7 : Nat)]? = some (.ref texts_) := by rw [z_10]; exact (xw_gn (by decide) g_texts)
  have g_13 : fs_9[(8 : Nat)]? = some (.ref sizes_) := by rw [z_10]; exact (xw_gn (by decide) g_sizes)
  have g_14 : fs_9[(53 : Nat)]? = some (.ref begins_) := by rw [z_10]; exact (xw_gn (by decide) g_begins)
  have g_15 : fs_9[(54 : Nat)]? = some (.ref lasts_) := by rw [z_10]; exact (xw_gn (by decide) g_lasts)
  have g_16 : fs_9[(55 : Nat)]? = some (.int 0) := by rw [z_10]; exact (xw_gs (by simp [l]))
  have ga_17 : ∀ i : Nat, i ∉ [55] → fs_9[i]? = fs[i]? := fun i hi => by rw [z_10]; exact xw_gn (fun z => hi (by rw [z]; simp)) (ga0 i hi)
  clear z_10
  rw [show (96 : Int32) = nI 96 from rfl, show (48 : Int32) = nI 48 from rfl, pk_mul, pk_mul, nI_add, show fz (2 * nI r + nI c).toNatClampNeg = nI n by rw [show (2 : Int32) = nI 2 from rfl, pk_mul, nI_add, nI_clamp (by omega)]; exact hn]
  exact lp_opens (gs := fs) (b := 96 * r + 48 * c) (ft := ft) (h0 := h) n_begins_lasts g_texts g_begins g_lasts e_texts ⟨xw_neC e_texts e_begins (by simp), xw_neC e_texts e_lasts (by simp), xw_neC e_texts e (by simp)⟩ (by omega) hn48 (by omega) (by omega) (fun h9 k9 fb9 fl9 fs9 a1 a2 a3 a4 a5 a6 a7 a8 ax a9 => ⟨rfl, k9, fb9, fl9, fs9, a1, a2, a3, a4, a5, a6, a7, a8, ax, a9⟩) n 0 _ 0 _ _ _ (Nat.zero_add _) l_11 e_2 g_16 ga_17 e_6 e_7 (fun j hj => absurd hj (Nat.not_lt_zero _)) rfl (fun j hj => absurd hj (Nat.not_lt_zero _)) r_8
set_option maxHeartbeats 1000000 in
theorem f_tokensOf {G : xw_G} {F L : Nat} {h : xw_A} {cl : Int32} {ft fz fb fl : Nat → Int32} {texts_ sizes_ begins_ lasts_ : Nat} {m : Nat} {fs : List Value} (l : fs.length = 62) (e : h m = some (.inr (11, fs))) (g_column : fs[(55 : Nat)]? = some (.int cl)) (g_texts : fs[(7 : Nat)]? = some (.ref texts_)) (e_texts : h texts_ = some (.inl (0, 2304, .inl (ft)))) (g_sizes : fs[(8 : Nat)]? = some (.ref sizes_)) (e_sizes : h sizes_ = some (.inl (0, 48, .inl (fz)))) (g_begins : fs[(53 : Nat)]? = some (.ref begins_)) (e_begins : h begins_ = some (.inl (0, 24, .inl (fb)))) (g_lasts : fs[(54 : Nat)]? = some (.ref lasts_)) (e_lasts : h lasts_ = some (.inl (0, 24, .inl (fl)))) (n_begins_lasts : begins_ ≠ lasts_) {r : Nat} (hr : r < 24) (hz : ∀ i, i < 48 → ∃ n, fz i = nI n ∧ n ≤ 48) (hF : 4 ≤ F) (hL : 87 ≤ L) :
    xw_Met G m_Model_tokensOf F L 0 0 [.ref m, .int (nI r)] h (fun v h' => ∃ (k : Nat) (fb' fl' : Nat → Int32) (fs' : List Value), v = some (.int (nI k)) ∧ k = tokN (fun j => ft (96 * r + 48 * 0 + j)) (fz (2 * r + 0)).toNatClampNeg + tokN (fun j => ft (96 * r + 48 * 1 + j)) (fz (2 * r + 1)).toNatClampNeg ∧ k ≤ 48 ∧ fs'.length = 62 ∧ h' m = some (.inr (11, fs')) ∧ (∃ cl' : Int32, fs'[(55 : Nat)]? = some (.int cl')) ∧ (∀ i : Nat, i ∉ [55] → fs'[i]? = fs[i]?) ∧ h' begins_ = some (.inl (0, 24, .inl fb')) ∧ h' lasts_ = some (.inl (0, 24, .inl fl')) ∧ FrO [m, begins_, lasts_] h h') (fun _ _ => False) := by
  refine xw_Met.of rfl (by decide) (Nat.le_of_ble_eq_true rfl) ?_
  obtain ⟨n0, hz0, hz0b⟩ := hz (2 * r + 0) (by omega)
  obtain ⟨n1, hz1, hz1b⟩ := hz (2 * r + 1) (by omega)
  have ga0 : ∀ i : Nat, i ∉ [55] → fs[i]? = fs[i]? := fun _ _ => rfl
  have r0 : FrO [m, begins_, lasts_] h h := FrO.rf
  refine s_Model_tokensOf_0 ?_
  refine x_callV (As := [.int (nI r), .int (nI 0)]) (b := m) (rest := []) (F1 := 3) (L1 := 62) (mc := 0) (ms := 0) d_Model_tokensOf_3 cV_Model_153 (f_opens l e g_column g_texts e_texts g_sizes e_sizes g_begins e_begins g_lasts e_lasts n_begins_lasts (show r < 24 by omega) (show 0 < 2 by omega) hz0 hz0b (by omega) (by omega)) e ⟨by decide, rfl⟩ ⟨by omega, by show 8 + (6 + 11) + 62 ≤ _; omega⟩ ⟨by omega, by omega⟩ (Nat.le_of_ble_eq_true rfl) (fun v_16 h_15 p_17 => ?_)
  obtain ⟨rfl, k_1, fb_2, fl_3, fs_4, l_5, e_6, g_7, ga_8, eb_9, el_10, TW_11, hk_12, TX_13, fr_14⟩ := p_17
  have e_18 := fr_14 texts_ _ (by simp only [List.mem_cons, List.not_mem_nil, or_false, not_or]; exact ⟨(xw_neC e_texts e (by simp)), (xw_neC e_texts e_begins (by simp)), (xw_neC e_texts e_lasts (by simp))⟩) e_texts
  have e_19 := fr_14 sizes_ _ (by simp only [List.mem_cons, List.not_mem_nil, or_false, not_or]; exact ⟨(xw_neC e_sizes e (by simp)), (xw_neC e_sizes e_begins (by simp)), (xw_neC e_sizes e_lasts (by simp))⟩) e_sizes
  have g_20 : fs_4[(7 : Nat)]? = some (.ref texts_) := (ga_8 7 (by decide)).trans g_texts
  have g_21 : fs_4[(8 : Nat)]? = some (.ref sizes_) := (ga_8 8 (by decide)).trans g_sizes
  have g_22 : fs_4[(53 : Nat)]? = some (.ref begins_) := (ga_8 53 (by decide)).trans g_begins
  have g_23 : fs_4[(54 : Nat)]? = some (.ref lasts_) := (ga_8 54 (by decide)).trans g_lasts
  have ga_24 : ∀ i : Nat, i ∉ [55] → fs_4[i]? = fs[i]? := fun i hi => (ga_8 i (fun z => hi (by simp only [List.mem_cons, List.not_mem_nil, or_false] at z ⊢; omega))).trans (ga0 i hi)
  have r_25 := r0.trans (fr_14.mono (by simp))
  refine s_Model_tokensOf_6 l_5 e_6 g_7 ?_
  refine x_callV (As := [.int (nI r), .int (nI 1)]) (b := m) (rest := []) (F1 := 3) (L1 := 62) (mc := 0) (ms := 0) d_Model_tokensOf_14 cV_Model_153 (f_opens l_5 e_6 g_7 g_20 e_18 g_21 e_19 g_22 eb_9 g_23 el_10 n_begins_lasts (show r < 24 by omega) (show 1 < 2 by omega) hz1 hz1b (by omega) (by omega)) e_6 ⟨by decide, rfl⟩ ⟨by omega, by show 8 + (6 + 11) + 62 ≤ _; omega⟩ ⟨by omega, by omega⟩ (Nat.le_of_ble_eq_true rfl) (fun v_41 h_40 p_42 => ?_)
  obtain ⟨rfl, k_26, fb_27, fl_28, fs_29, l_30, e_31, g_32, ga_33, eb_34, el_35, TW_36, hk_37, TX_38, fr_39⟩ := p_42
  have e_43 := fr_39 texts_ _ (by simp only [List.mem_cons, List.not_mem_nil, or_false, not_or]; exact ⟨(xw_neC e_18 e_6 (by simp)), (xw_neC e_18 eb_9 (by simp)), (xw_neC e_18 el_10 (by simp))⟩) e_18
  have e_44 := fr_39 sizes_ _ (by simp only [List.mem_cons, List.not_mem_nil, or_false, not_or]; exact ⟨(xw_neC e_19 e_6 (by simp)), (xw_neC e_19 eb_9 (by simp)), (xw_neC e_19 el_10 (by simp))⟩) e_19
  have g_45 : fs_29[(7 : Nat)]? = some (.ref texts_) := (ga_33 7 (by decide)).trans g_20
  have g_46 : fs_29[(8 : Nat)]? = some (.ref sizes_) := (ga_33 8 (by decide)).trans g_21
  have g_47 : fs_29[(53 : Nat)]? = some (.ref begins_) := (ga_33 53 (by decide)).trans g_22
  have g_48 : fs_29[(54 : Nat)]? = some (.ref lasts_) := (ga_33 54 (by decide)).trans g_23
  have ga_49 : ∀ i : Nat, i ∉ [55] → fs_29[i]? = fs[i]? := fun i hi => (ga_33 i (fun z => hi (by simp only [List.mem_cons, List.not_mem_nil, or_false] at z ⊢; omega))).trans (ga_24 i hi)
  have r_50 := r_25.trans (fr_39.mono (by simp))
  refine x_le (xw_le_s (xw_le_n (xw_le_s xw_le_e))) ?_
  refine s_Model_tokensOf_17 l_30 e_31 g_32 ?_
  rw [nI_add]
  exact ⟨k_1 + k_26, _, _, _, rfl, by rw [hz0, hz1, nI_clamp (by omega), nI_clamp (by omega), hk_12, hk_37], by have q1 := (tokN_half (fun j => ft (96 * r + 48 * 0 + j)) n0).1; have q2 := (tokN_half (fun j => ft (96 * r + 48 * 1 + j)) n1).1; omega, l_30, e_31, ⟨_, g_32⟩, ga_49, eb_34, el_35, r_50⟩
set_option maxHeartbeats 1000000 in
theorem lp_rows {G : xw_G} {F L bc bs : Nat} {pr : Option Value → xw_A → Prop} {px : String → xw_A → Prop} {h : xw_A} {fv : Nat → Int32} {live_ : Nat} {m : Nat} {fs : List Value} (l : fs.length = 62) (e : h m = some (.inr (11, fs))) (g_live : fs[(14 : Nat)]? = some (.ref live_)) (e_live : h live_ = some (.inl (0, 24, .inl (fv)))) (kk : ∀ c : Nat, c ≤ 24 → c = cntL fv 24 → pr (some (.int (nI c))) h) :
    ∀ (dd i : Nat) (c : Nat), i + dd = 24 → c = cntL fv i → xw G m_Model_rows F L bc bs pr px 4 [some (.ref m), some (.int (nI c)), some (.int (nI i))] [] h := by
  intro dd
  induction dd with
  | zero =>
    intro i c hi hp
    obtain rfl : i = 24 := by omega
    refine s_Model_rows_4 (fun z_1 => ?_) (fun z => absurd z (by decide))
    refine s_Model_rows_28 ?_
    exact kk _ (by rw [hp]; exact cntL_le _ _) hp
  | succ dd ih =>
    intro i c hi hp
    refine s_Model_rows_4 (fun z => absurd z (nI_ge (b := 24) (show i < 24 by omega) (by decide))) (fun z_1 => ?_)
    refine s_Model_rows_10 l e g_live e_live (vp_in_nI (by omega) (by omega)) (fun z_2 => ?_) (fun z_3 => ?_)
    · skip
      refine s_Model_rows_22 ?_
      simp only [nI_1]
      exact ih (i + 1) _ (by omega) (by rw [nI_clamp (by omega)] at z_2; rw [cntL, if_neg (by rw [Decidable.not_not]; exact z_2), Nat.add_zero]; exact hp)
    · skip
      refine s_Model_rows_19 ?_
      refine s_Model_rows_22 ?_
      simp only [nI_1]
      exact ih (i + 1) _ (by omega) (by rw [nI_clamp (by omega)] at z_3; rw [cntL, if_pos z_3, hp])
set_option maxHeartbeats 400000 in
theorem f_rows {G : xw_G} {F L : Nat} {h : xw_A} {fv : Nat → Int32} {live_ : Nat} {m : Nat} {fs : List Value} (l : fs.length = 62) (e : h m = some (.inr (11, fs))) (g_live : fs[(14 : Nat)]? = some (.ref live_)) (e_live : h live_ = some (.inl (0, 24, .inl (fv)))) (hF : 1 ≤ F) (hL : 20 ≤ L) :
    xw_Met G m_Model_rows F L 0 0 [.ref m] h (fun v h' => (∃ c : Nat, v = some (.int (nI c)) ∧ c ≤ 24 ∧ c = cntL fv 24) ∧ h = h') (fun _ _ => False) := by
  refine xw_Met.of rfl (by decide) (Nat.le_of_ble_eq_true rfl) ?_
  refine s_Model_rows_0 ?_
  exact lp_rows l e g_live e_live (fun c hc hv => ⟨⟨c, rfl, hc, hv⟩, rfl⟩) 24 0 0 rfl rfl
set_option maxHeartbeats 1000000 in
theorem lp_isLive {G : xw_G} {F L bc bs : Nat} {pr : Option Value → xw_A → Prop} {px : String → xw_A → Prop} {h : xw_A} {x : Int32} {fv : Nat → Int32} {live_ : Nat} {m : Nat} {fs : List Value} (l : fs.length = 62) (e : h m = some (.inr (11, fs))) (g_live : fs[(14 : Nat)]? = some (.ref live_)) (e_live : h live_ = some (.inl (0, 24, .inl (fv)))) (kk : ∀ y : Int32, ((y = 0 ∧ ¬ liv fv x) ∨ (y = 1 ∧ liv fv x)) → pr (some (.int y)) h) :
    ∀ (dd i : Nat) , i + dd = 24 → (∀ j, j < i → ¬ fv j = x) → xw G m_Model_isLive F L bc bs pr px 2 [some (.ref m), some (.int x), some (.int (nI i))] [] h := by
  intro dd
  induction dd with
  | zero =>
    intro i  hi hp
    obtain rfl : i = 24 := by omega
    refine s_Model_isLive_2 (fun z_1 => ?_) (fun z => absurd z (by decide))
    refine s_Model_isLive_26 ?_
    exact kk _ (Or.inl ⟨rfl, fun ⟨j9, q1, q2⟩ => hp j9 (by omega) q2⟩)
  | succ dd ih =>
    intro i  hi hp
    refine s_Model_isLive_2 (fun z => absurd z (nI_ge (b := 24) (show i < 24 by omega) (by decide))) (fun z_1 => ?_)
    refine s_Model_isLive_8 l e g_live e_live (vp_in_nI (by omega) (by omega)) (fun z_2 => ?_) (fun z_3 => ?_)
    · skip
      refine s_Model_isLive_20 ?_
      simp only [nI_1]
      exact ih (i + 1) (by omega) (fun j hj => by by_cases q : j = i; (rw [q]; rw [nI_clamp (by omega)] at z_2; exact z_2); (exact hp j (by omega)))
    · skip
      refine s_Model_isLive_18 ?_
      exact kk _ (Or.inr ⟨rfl, i, by omega, by rw [nI_clamp (by omega)] at z_3; exact z_3⟩)
set_option maxHeartbeats 400000 in
theorem f_isLive {G : xw_G} {F L : Nat} {h : xw_A} {x : Int32} {fv : Nat → Int32} {live_ : Nat} {m : Nat} {fs : List Value} (l : fs.length = 62) (e : h m = some (.inr (11, fs))) (g_live : fs[(14 : Nat)]? = some (.ref live_)) (e_live : h live_ = some (.inl (0, 24, .inl (fv)))) (hF : 1 ≤ F) (hL : 20 ≤ L) :
    xw_Met G m_Model_isLive F L 0 0 [.ref m, .int x] h (fun v h' => (∃ y : Int32, v = some (.int y) ∧ ((y = 0 ∧ ¬ liv fv x) ∨ (y = 1 ∧ liv fv x))) ∧ h = h') (fun _ _ => False) := by
  refine xw_Met.of rfl (by decide) (Nat.le_of_ble_eq_true rfl) ?_
  refine s_Model_isLive_0 ?_
  exact lp_isLive l e g_live e_live (fun y hy => ⟨⟨y, rfl, hy⟩, rfl⟩) 24 0 rfl (fun j hj => absurd hj (Nat.not_lt_zero _))
set_option maxHeartbeats 400000 in
theorem f_has {G : xw_G} {F L : Nat} {h : xw_A} {x : Int32} {fv : Nat → Int32} {live_ : Nat} {m : Nat} {fs : List Value} (l : fs.length = 62) (e : h m = some (.inr (11, fs))) (g_live : fs[(14 : Nat)]? = some (.ref live_)) (e_live : h live_ = some (.inl (0, 24, .inl (fv)))) (hF : 2 ≤ F) (hL : 42 ≤ L) :
    xw_Met G m_Model_has F L 0 0 [.ref m, .int x] h (fun v h' => (∃ y : Int32, v = some (.int y) ∧ ((y = 0 ∧ ∀ j, j < 24 → x = nI (j + 1) → fv j < 0) ∨ (y = 1 ∧ ∃ j, j < 24 ∧ x = nI (j + 1) ∧ ¬ fv j < 0))) ∧ h = h') (fun _ _ => False) := by
  refine xw_Met.of rfl (by decide) (Nat.le_of_ble_eq_true rfl) ?_
  refine s_Model_has_0 ?_
  refine x_callS (As := [.int x, .int 1, .int 24]) (rest := []) (F1 := 1) (L1 := 20) (mc := 0) (ms := 0) d_Model_has_4 cS_Model_133 (f_inB (by omega) (by omega)) ⟨by omega, by show 8 + (3 + 11) + 20 ≤ _; omega⟩ ⟨by omega, by omega⟩ (Nat.le_of_ble_eq_true rfl) (fun v_2 h_1 p_3 => ?_)
  obtain ⟨rfl, rfl⟩ := p_3
  refine s_Model_has_7 (fun z_4 => ?_) (fun z_5 => ?_)
  · skip
    refine s_Model_has_25 ?_
    refine s_Model_has_26 rfl ?_
    exact ⟨⟨0, rfl, Or.inl ⟨rfl, fun j9 hj9 e9 => (has_f z_4 hj9 e9).elim⟩⟩, rfl⟩
  · skip
    have hb9 := b01_t z_5
    simp only [Bool.and_eq_true, decide_eq_true_eq] at hb9
    obtain ⟨j, hj1, hj2, rfl⟩ := row_ix hb9.1 hb9.2
    refine s_Model_has_10 l e g_live e_live (by rw [show (1 : Int32) = nI 1 from rfl, pk_sub hj1]; exact vp_in_nI (by omega) (by decide)) (fun z_6 => ?_) (fun z_7 => ?_)
    · skip
      refine s_Model_has_25 ?_
      refine s_Model_has_26 rfl ?_
      exact ⟨⟨0, rfl, Or.inl ⟨rfl, fun j9 hj9 e9 => by have q := (nI_eq (by omega) (by omega)).mp e9; subst q; rw [nI_pred, nI_clamp (by omega)] at z_6; exact z_6⟩⟩, rfl⟩
    · skip
      refine s_Model_has_21 ?_
      refine s_Model_has_26 rfl ?_
      obtain ⟨j0, rfl⟩ : ∃ j0, j = j0 + 1 := ⟨j - 1, by omega⟩
      rw [nI_pred, nI_clamp (by omega)] at z_7
      exact ⟨⟨1, rfl, Or.inr ⟨rfl, j0, by omega, rfl, z_7⟩⟩, rfl⟩
set_option maxHeartbeats 1000000 in
theorem lp_pending {G : xw_G} {F L bc bs : Nat} {pr : Option Value → xw_A → Prop} {px : String → xw_A → Prop} {h : xw_A} {vs : Nat} {fi fe : Nat → Int32} {lies_ entries_ : Nat} {m : Nat} {fs : List Value} (l : fs.length = 62) (e : h m = some (.inr (11, fs))) (g_versions : fs[(15 : Nat)]? = some (.int (nI vs))) (g_lies : fs[(13 : Nat)]? = some (.ref lies_)) (e_lies : h lies_ = some (.inl (0, 600, .inl (fi)))) (g_entries : fs[(12 : Nat)]? = some (.ref entries_)) (e_entries : h entries_ = some (.inl (0, 600, .inl (fe)))) (n_lies_entries : lies_ ≠ entries_) (hvs : vs ≤ 600) (kk : pr (some (.int (pnd fi fe vs))) h) :
    ∀ (dd i : Nat) (c : Int32), i + dd = vs → c = pnd fi fe i → xw G m_Model_pending F L bc bs pr px 4 [some (.ref m), some (.int c), some (.int (nI i))] [] h := by
  intro dd
  induction dd with
  | zero =>
    intro i c hi hp
    obtain rfl : i = vs := by omega
    refine s_Model_pending_4 l e g_versions (fun z_1 => ?_) (fun z => absurd (nI_le (Nat.le_refl _) (by omega)) z)
    refine s_Model_pending_38 ?_
    rw [hp]; exact kk
  | succ dd ih =>
    intro i c hi hp
    refine s_Model_pending_4 l e g_versions (fun z => absurd z (nI_ge (b := vs) (show i < vs by omega) (by omega))) (fun z_1 => ?_)
    refine s_Model_pending_12 l e g_lies e_lies (vp_in_nI (by omega) (by omega)) (fun z_2 => ?_) (fun z_3 => ?_)
    · skip
      refine s_Model_pending_32 ?_
      simp only [nI_1]
      exact ih (i + 1) _ (by omega) (by rw [pnd, if_neg (by rw [nI_clamp (show i < 2 ^ 31 by omega)] at z_2; exact z_2), hp])
    · skip
      refine s_Model_pending_23 l e g_entries e_entries (vp_in_nI (by omega) (by omega)) ?_
      refine s_Model_pending_32 ?_
      simp only [nI_1]
      exact ih (i + 1) _ (by omega) (by rw [pnd, if_pos (by rw [nI_clamp (show i < 2 ^ 31 by omega)] at z_3; exact z_3), hp, nI_clamp (show i < 2 ^ 31 by omega)])
set_option maxHeartbeats 400000 in
theorem f_pending {G : xw_G} {F L : Nat} {h : xw_A} {vs : Nat} {fi fe : Nat → Int32} {lies_ entries_ : Nat} {m : Nat} {fs : List Value} (l : fs.length = 62) (e : h m = some (.inr (11, fs))) (g_versions : fs[(15 : Nat)]? = some (.int (nI vs))) (g_lies : fs[(13 : Nat)]? = some (.ref lies_)) (e_lies : h lies_ = some (.inl (0, 600, .inl (fi)))) (g_entries : fs[(12 : Nat)]? = some (.ref entries_)) (e_entries : h entries_ = some (.inl (0, 600, .inl (fe)))) (n_lies_entries : lies_ ≠ entries_) (hvs : vs ≤ 600) (hF : 1 ≤ F) (hL : 20 ≤ L) :
    xw_Met G m_Model_pending F L 0 0 [.ref m] h (fun v h' => v = some (.int (pnd fi fe vs)) ∧ h = h') (fun _ _ => False) := by
  refine xw_Met.of rfl (by decide) (Nat.le_of_ble_eq_true rfl) ?_
  refine s_Model_pending_0 ?_
  exact lp_pending l e g_versions g_lies e_lies g_entries e_entries n_lies_entries hvs ⟨rfl, rfl⟩ vs 0 0 (Nat.zero_add _) rfl
set_option maxHeartbeats 1000000 in
theorem lp_alike {G : xw_G} {F L bc bs : Nat} {pr : Option Value → xw_A → Prop} {px : String → xw_A → Prop} {h : xw_A} {ft fb fl : Nat → Int32} {texts_ begins_ lasts_ : Nat} {m : Nat} {fs : List Value} (l : fs.length = 62) (e : h m = some (.inr (11, fs))) (g_texts : fs[(7 : Nat)]? = some (.ref texts_)) (e_texts : h texts_ = some (.inl (0, 2304, .inl (ft)))) (g_begins : fs[(53 : Nat)]? = some (.ref begins_)) (e_begins : h begins_ = some (.inl (0, 24, .inl (fb)))) (g_lasts : fs[(54 : Nat)]? = some (.ref lasts_)) (e_lasts : h lasts_ = some (.inl (0, 24, .inl (fl)))) (n_begins_lasts : begins_ ≠ lasts_) {a c x1 y1 x2 y2 : Nat} (ha : a < 24) (hc : c < 24) (hx1 : fb a = nI x1) (hy1 : fl a = nI y1) (hx2 : fb c = nI x2) (hy2 : fl c = nI y2) (h1 : x1 < y1) (h2 : x2 < y2) (h1b : y1 ≤ 2304) (h2b : y2 ≤ 2304) {zn : Nat} (hz1 : x1 + zn = y1) (hz2 : x2 + zn = y2) (hF : 3 ≤ F) (hL : 62 ≤ L) (kk : ∀ y : Int32, ((y = 1 ∧ ∀ k, k < zn → lowc (ft (x1 + k)) = lowc (ft (x2 + k))) ∨ (y = 0 ∧ ∃ k, k < zn ∧ ¬ lowc (ft (x1 + k)) = lowc (ft (x2 + k)))) → pr (some (.int y)) h) :
    ∀ (dd i : Nat) , i + dd = zn → (∀ k, k < i → lowc (ft (x1 + k)) = lowc (ft (x2 + k))) → xw G m_Model_alike F L bc bs pr px 36 [some (.ref m), some (.int (nI a)), some (.int (nI c)), some (.int (nI zn)), some (.int (nI i))] [] h := by
  intro dd
  induction dd with
  | zero =>
    intro i  hi hp
    obtain rfl : i = zn := by omega
    refine s_Model_alike_36 (fun z_1 => ?_) (fun z => absurd (nI_le (Nat.le_refl _) (by omega)) z)
    refine s_Model_alike_87 ?_
    exact kk _ (Or.inl ⟨rfl, hp⟩)
  | succ dd ih =>
    intro i  hi hp
    refine s_Model_alike_36 (fun z => absurd z (nI_ge (b := zn) (show i < zn by omega) (by omega))) (fun z_1 => ?_)
    refine s_Model_alike_42 l e g_texts g_begins e_begins (vp_in_nI (by omega) (by omega)) e_texts (by rw [nI_clamp (by omega), hx1, nI_add]; exact vp_in_nI (by omega) (by decide)) ?_
    rw [show ft (fb (nI a).toNatClampNeg + nI i).toNatClampNeg = ft (x1 + i) by rw [nI_clamp (show a < 2 ^ 31 by omega), hx1, nI_add, nI_clamp (show x1 + i < 2 ^ 31 by omega)]]
    refine x_callS (As := [.int (ft (x1 + i))]) (rest := []) (F1 := 2) (L1 := 42) (mc := 0) (ms := 0) d_Model_alike_56 cS_Model_157 (f_small (by omega) (by omega)) ⟨by omega, by show 8 + (1 + 11) + 42 ≤ _; omega⟩ ⟨by omega, by omega⟩ (Nat.le_of_ble_eq_true rfl) (fun v_3 h_2 p_4 => ?_)
    obtain ⟨rfl, rfl⟩ := p_4
    refine s_Model_alike_59 l e g_texts g_begins e_begins (vp_in_nI (by omega) (by omega)) e_texts (by rw [nI_clamp (by omega), hx2, nI_add]; exact vp_in_nI (by omega) (by decide)) ?_
    rw [show ft (fb (nI c).toNatClampNeg + nI i).toNatClampNeg = ft (x2 + i) by rw [nI_clamp (show c < 2 ^ 31 by omega), hx2, nI_add, nI_clamp (show x2 + i < 2 ^ 31 by omega)]]
    refine x_callS (As := [.int (ft (x2 + i))]) (rest := [.int (lowc (ft (x1 + i)))]) (F1 := 2) (L1 := 42) (mc := 0) (ms := 0) d_Model_alike_73 cS_Model_157 (f_small (by omega) (by omega)) ⟨by omega, by show 8 + (1 + 11) + 42 ≤ _; omega⟩ ⟨by omega, by omega⟩ (Nat.le_of_ble_eq_true rfl) (fun v_6 h_5 p_7 => ?_)
    obtain ⟨rfl, rfl⟩ := p_7
    refine s_Model_alike_76 (fun z_8 => ?_) (fun z_9 => ?_)
    · skip
      refine s_Model_alike_81 ?_
      simp only [nI_1]
      exact ih (i + 1) (by omega) (fun k9 hk9 => by by_cases q9 : k9 = i; (rw [q9]; exact z_8); (exact hp k9 (by omega)))
    · skip
      refine s_Model_alike_79 ?_
      exact kk _ (Or.inr ⟨rfl, i, by omega, z_9⟩)
set_option maxHeartbeats 400000 in
theorem f_alike {G : xw_G} {F L : Nat} {h : xw_A} {ft fb fl : Nat → Int32} {texts_ begins_ lasts_ : Nat} {m : Nat} {fs : List Value} (l : fs.length = 62) (e : h m = some (.inr (11, fs))) (g_texts : fs[(7 : Nat)]? = some (.ref texts_)) (e_texts : h texts_ = some (.inl (0, 2304, .inl (ft)))) (g_begins : fs[(53 : Nat)]? = some (.ref begins_)) (e_begins : h begins_ = some (.inl (0, 24, .inl (fb)))) (g_lasts : fs[(54 : Nat)]? = some (.ref lasts_)) (e_lasts : h lasts_ = some (.inl (0, 24, .inl (fl)))) (n_begins_lasts : begins_ ≠ lasts_) {a c x1 y1 x2 y2 : Nat} (ha : a < 24) (hc : c < 24) (hx1 : fb a = nI x1) (hy1 : fl a = nI y1) (hx2 : fb c = nI x2) (hy2 : fl c = nI y2) (h1 : x1 < y1) (h2 : x2 < y2) (h1b : y1 ≤ 2304) (h2b : y2 ≤ 2304) (hF : 3 ≤ F) (hL : 62 ≤ L) :
    xw_Met G m_Model_alike F L 0 0 [.ref m, .int (nI a), .int (nI c)] h (fun v h' => (∃ y : Int32, v = some (.int y) ∧ ((y = 1 ∧ (y1 - x1 = y2 - x2 ∧ ∀ k, k < y1 - x1 → lowc (ft (x1 + k)) = lowc (ft (x2 + k)))) ∨ (y = 0 ∧ ¬ (y1 - x1 = y2 - x2 ∧ ∀ k, k < y1 - x1 → lowc (ft (x1 + k)) = lowc (ft (x2 + k)))))) ∧ h = h') (fun _ _ => False) := by
  refine xw_Met.of rfl (by decide) (Nat.le_of_ble_eq_true rfl) ?_
  refine s_Model_alike_0 l e g_lasts e_lasts (vp_in_nI (by omega) (by omega)) g_begins e_begins (vp_in_nI (by omega) (by omega)) (vp_in_nI (by omega) (by omega)) (vp_in_nI (by omega) (by omega)) (fun z_1 => ?_) (fun z_2 => ?_)
  · skip
    rw [nI_clamp (show a < 2 ^ 31 by omega), nI_clamp (show c < 2 ^ 31 by omega), hx1, hy1, hx2, hy2, pk_sub (by omega), pk_sub (by omega)] at z_1
    have hz9 := (nI_eq (by omega) (by omega)).mp z_1
    rw [nI_clamp (show a < 2 ^ 31 by omega), hx1, hy1, pk_sub (by omega)]
    refine s_Model_alike_33 ?_
    exact lp_alike l e g_texts e_texts g_begins e_begins g_lasts e_lasts n_begins_lasts ha hc hx1 hy1 hx2 hy2 h1 h2 h1b h2b (show x1 + (y1 - x1) = y1 by omega) (show x2 + (y1 - x1) = y2 by omega) (by omega) (by omega) (fun y hy => ⟨⟨y, rfl, hy.imp (fun q => ⟨q.1, by omega, q.2⟩) (fun q => ⟨q.1, fun q2 => q.2.elim (fun k9 q3 => q3.2 (q2.2 k9 q3.1))⟩)⟩, rfl⟩) (y1 - x1) 0 (Nat.zero_add _) (fun k9 hk9 => absurd hk9 (Nat.not_lt_zero _))
  · skip
    refine s_Model_alike_31 ?_
    rw [nI_clamp (show a < 2 ^ 31 by omega), nI_clamp (show c < 2 ^ 31 by omega), hx1, hy1, hx2, hy2, pk_sub (by omega), pk_sub (by omega)] at z_2
    exact ⟨⟨_, rfl, Or.inr ⟨rfl, fun q2 => z_2 (by rw [q2.1])⟩⟩, rfl⟩
set_option maxHeartbeats 1000000 in
theorem lp_ent1 {G : xw_G} {F L bc bs : Nat} {pr : Option Value → xw_A → Prop} {px : String → xw_A → Prop} {h : xw_A} {k b n : Nat} {ft fb fl : Nat → Int32} {texts_ begins_ lasts_ : Nat} {m : Nat} {fs : List Value} (l : fs.length = 62) (e : h m = some (.inr (11, fs))) (g_column : fs[(55 : Nat)]? = some (.int (nI k))) (g_texts : fs[(7 : Nat)]? = some (.ref texts_)) (e_texts : h texts_ = some (.inl (0, 2304, .inl (ft)))) (g_begins : fs[(53 : Nat)]? = some (.ref begins_)) (e_begins : h begins_ = some (.inl (0, 24, .inl (fb)))) (g_lasts : fs[(54 : Nat)]? = some (.ref lasts_)) (e_lasts : h lasts_ = some (.inl (0, 24, .inl (fl)))) (n_begins_lasts : begins_ ≠ lasts_) (TW : TokW fb fl k b n) (TX : TokX ft b fb fl n) (hkn : k = tokN (fun j => ft (b + j)) n) (hk : k ≤ 24) (hbn : b + n ≤ 2304) {r cc : Nat} {u : Nat} {t : Int32} (hu : u < k) (hF : 4 ≤ F) (hL : 86 ≤ L) (kk : ∀ s : Int32, ((s = 1 ∧ ∀ j, j < u → ¬ tkE (fun j => ft (b + j)) n u j) ∨ (s = 0 ∧ ∃ j, j < u ∧ tkE (fun j => ft (b + j)) n u j)) → xw G m_Model_entriesOf F L bc bs pr px 67 [some (.ref m), some (.int (nI r)), some (.int t), some (.int (nI cc)), some (.int (nI u)), some (.int s), none] [] h) :
    ∀ (dd i : Nat) (s : Int32), i + dd = u → ((s = 1 ∧ ∀ j, j < i → ¬ tkE (fun j => ft (b + j)) n u j) ∨ (s = 0 ∧ ∃ j, j < i ∧ tkE (fun j => ft (b + j)) n u j)) → xw G m_Model_entriesOf F L bc bs pr px 33 [some (.ref m), some (.int (nI r)), some (.int t), some (.int (nI cc)), some (.int (nI u)), some (.int s), some (.int (nI i))] [] h := by
  intro dd
  induction dd with
  | zero =>
    intro i s hi hp
    obtain rfl : i = u := by omega
    refine s_Model_entriesOf_33 (fun z_1 => ?_) (fun z => absurd (nI_le (Nat.le_refl _) (by omega)) z)
    exact kk _ hp
  | succ dd ih =>
    intro i s hi hp
    refine s_Model_entriesOf_33 (fun z => absurd z (nI_ge (b := u) (show i < u by omega) (by omega))) (fun z_1 => ?_)
    refine s_Model_entriesOf_40 ?_
    obtain ⟨x1, y1, hx1, hy1, -, hxy1, hb1⟩ := TW u (by omega)
    obtain ⟨x2, y2, hx2, hy2, -, hxy2, hb2⟩ := TW i (by omega)
    refine x_callV (As := [.int (nI u), .int (nI i)]) (b := m) (rest := [.int s]) (F1 := 3) (L1 := 62) (mc := 0) (ms := 0) d_Model_entriesOf_47 cV_Model_161 (f_alike l e g_texts e_texts g_begins e_begins g_lasts e_lasts n_begins_lasts (by omega) (by omega) hx1 hy1 hx2 hy2 hxy1 hxy2 (by omega) (by omega) (by omega) (by omega)) e ⟨by decide, rfl⟩ ⟨by omega, by show 8 + (5 + 11) + 62 ≤ _; omega⟩ ⟨by omega, by omega⟩ (Nat.le_of_ble_eq_true rfl) (fun v_5 h_4 p_6 => ?_)
    obtain ⟨⟨y_2, rfl, hy_3⟩, rfl⟩ := p_6
    have hak := TX.alike (u := u) (j := i) (by omega) (by omega) hbn hx1 hy1 hx2 hy2 (by omega) (by omega) (by omega) (by omega)
    refine x_le (xw_le_s (xw_le_s (xw_le_s (xw_le_s (xw_le_s (xw_le_n (xw_le_s xw_le_e))))))) ?_
    refine s_Model_entriesOf_50 (fun z_7 => ?_) (fun z_8 => ?_)
    · skip
      refine s_Model_entriesOf_57 ?_
      refine s_Model_entriesOf_58 ?_
      simp only [nI_1]
      exact ih (i + 1) _ (by omega) (Or.inr ⟨by rcases hp with q9 | q9 <;> (rw [q9.1]; rfl), i, by omega, hak.mp (hy_3.elim (fun y => y.2) (fun y => absurd y.1 z_7))⟩)
    · skip
      refine s_Model_entriesOf_53 ?_
      refine s_Model_entriesOf_58 ?_
      simp only [nI_1]
      exact ih (i + 1) _ (by omega) (by have hna : ¬ tkE (fun j => ft (b + j)) n u i := (fun q9 => hy_3.elim (fun y => absurd (y.1.symm.trans z_8) (by decide)) (fun y => y.2 (hak.mpr q9))); rcases hp with ⟨q8, q9⟩ | ⟨q8, j9, q9, q7⟩; (exact Or.inl ⟨by rw [q8]; rfl, fun j8 hj8 => by by_cases e8 : j8 = i; (rw [e8]; exact hna); (exact q9 j8 (by omega))⟩); (exact Or.inr ⟨by rw [q8]; rfl, j9, by omega, q7⟩))
set_option maxHeartbeats 1000000 in
theorem lp_ent2 {G : xw_G} {F L bc bs : Nat} {pr : Option Value → xw_A → Prop} {px : String → xw_A → Prop} {h : xw_A} {k b n : Nat} {ft fb fl : Nat → Int32} {texts_ begins_ lasts_ : Nat} {m : Nat} {fs : List Value} (l : fs.length = 62) (e : h m = some (.inr (11, fs))) (g_column : fs[(55 : Nat)]? = some (.int (nI k))) (g_texts : fs[(7 : Nat)]? = some (.ref texts_)) (e_texts : h texts_ = some (.inl (0, 2304, .inl (ft)))) (g_begins : fs[(53 : Nat)]? = some (.ref begins_)) (e_begins : h begins_ = some (.inl (0, 24, .inl (fb)))) (g_lasts : fs[(54 : Nat)]? = some (.ref lasts_)) (e_lasts : h lasts_ = some (.inl (0, 24, .inl (fl)))) (n_begins_lasts : begins_ ≠ lasts_) (TW : TokW fb fl k b n) (TX : TokX ft b fb fl n) (hkn : k = tokN (fun j => ft (b + j)) n) (hk : k ≤ 24) (hbn : b + n ≤ 2304) {r cc : Nat} {t0 : Nat} (hF : 4 ≤ F) (hL : 86 ≤ L) (kk : ∀ t : Nat, t = t0 + tkD (fun j => ft (b + j)) n k → xw G m_Model_entriesOf F L bc bs pr px 81 [some (.ref m), some (.int (nI r)), some (.int (nI t)), some (.int (nI cc)), none, none, none] [] h) :
    ∀ (dd i : Nat) (t : Nat), i + dd = k → t = t0 + tkD (fun j => ft (b + j)) n i → xw G m_Model_entriesOf F L bc bs pr px 18 [some (.ref m), some (.int (nI r)), some (.int (nI t)), some (.int (nI cc)), some (.int (nI i)), none, none] [] h := by
  intro dd
  induction dd with
  | zero =>
    intro i t hi hp
    obtain rfl : i = k := by omega
    refine s_Model_entriesOf_18 l e g_column (fun z_1 => ?_) (fun z => absurd (nI_le (Nat.le_refl _) (by omega)) z)
    exact kk _ hp
  | succ dd ih =>
    intro i t hi hp
    refine s_Model_entriesOf_18 l e g_column (fun z => absurd z (nI_ge (b := k) (show i < k by omega) (by omega))) (fun z_1 => ?_)
    refine s_Model_entriesOf_27 ?_
    refine lp_ent1 l e g_column g_texts e_texts g_begins e_begins g_lasts e_lasts n_begins_lasts TW TX hkn hk hbn (show i < k by omega) (by omega) (by omega) (fun s_2 hs_3 => ?_) i 0 _ (Nat.zero_add _) (Or.inl ⟨rfl, fun j9 hj9 => absurd hj9 (Nat.not_lt_zero _)⟩)
    refine s_Model_entriesOf_67 (fun z_4 => ?_) (fun z_5 => ?_)
    · skip
      refine s_Model_entriesOf_75 ?_
      simp only [nI_1]
      exact ih (i + 1) _ (by omega) (by rw [tkD_y (hs_3.elim (fun y => absurd (y.1.symm.trans z_4) (by decide)) (fun y => y.2))]; exact hp)
    · skip
      refine s_Model_entriesOf_72 ?_
      refine s_Model_entriesOf_75 ?_
      simp only [nI_1]
      exact ih (i + 1) _ (by omega) (by rw [tkD_n (fun ⟨x9, hx9, q9⟩ => hs_3.elim (fun y => y.2 x9 hx9 q9) (fun y => absurd y.1 z_5)), hp]; omega)
set_option maxHeartbeats 2000000 in
theorem lp_ent3 {G : xw_G} {F L bc bs : Nat} {pr : Option Value → xw_A → Prop} {px : String → xw_A → Prop} {m texts_ sizes_ begins_ lasts_ r : Nat} {gs : List Value} {ft fz : Nat → Int32} {h0 : xw_A} (nbl : begins_ ≠ lasts_) (q_texts : gs[(7 : Nat)]? = some (.ref texts_)) (q_sizes : gs[(8 : Nat)]? = some (.ref sizes_)) (q_begins : gs[(53 : Nat)]? = some (.ref begins_)) (q_lasts : gs[(54 : Nat)]? = some (.ref lasts_)) (q_t : h0 texts_ = some (.inl (0, 2304, .inl ft))) (q_z : h0 sizes_ = some (.inl (0, 48, .inl fz))) (q_m : h0 m = some (.inr (11, gs))) (q_b : ∃ f, h0 begins_ = some (.inl (0, 24, .inl f))) (q_l : ∃ f, h0 lasts_ = some (.inl (0, 24, .inl f))) (hr : r < 24) (hz : ∀ i, i < 48 → ∃ n, fz i = nI n ∧ n ≤ 48) (hF : 4 ≤ F) (hL : 87 ≤ L) (kk : ∀ (h : xw_A) (t : Nat) (cl : Int32) (fb fl : Nat → Int32) (fs : List Value), fs.length = 62 → h m = some (.inr (11, fs)) → fs[(55 : Nat)]? = some (.int cl) → (∀ i : Nat, i ∉ [55] → fs[i]? = gs[i]?) → h begins_ = some (.inl (0, 24, .inl fb)) → h lasts_ = some (.inl (0, 24, .inl fl)) → t = tkS2 ft fz r 2 → FrO [m, begins_, lasts_] h0 h → pr (some (.int (nI t))) h) :
    ∀ (dd i : Nat) (h : xw_A) (t : Nat) (cl : Int32) (fb : Nat → Int32) (fl : Nat → Int32) (fs : List Value), i + dd = 2 → fs.length = 62 → h m = some (.inr (11, fs)) → fs[(55 : Nat)]? = some (.int cl) → (∀ i : Nat, i ∉ [55] → fs[i]? = gs[i]?) → h begins_ = some (.inl (0, 24, .inl fb)) → h lasts_ = some (.inl (0, 24, .inl fl)) → t = tkS2 ft fz r i → FrO [m, begins_, lasts_] h0 h → xw G m_Model_entriesOf F L bc bs pr px 4 [some (.ref m), some (.int (nI r)), some (.int (nI t)), some (.int (nI i)), none, none, none] [] h := by
  intro dd
  induction dd with
  | zero =>
    intro i h t cl fb fl fs hi l e g_column ga0 e_begins e_lasts HT r0
    obtain rfl : i = 2 := by omega
    have g_texts := (ga0 7 (by decide)).trans q_texts
    have g_sizes := (ga0 8 (by decide)).trans q_sizes
    have g_begins := (ga0 53 (by decide)).trans q_begins
    have g_lasts := (ga0 54 (by decide)).trans q_lasts
    have e_texts := r0 texts_ _ (by obtain ⟨f8, q8⟩ := q_b; obtain ⟨f9, q9⟩ := q_l; simp only [List.mem_cons, List.not_mem_nil, or_false, not_or]; exact ⟨xw_neC q_t q_m (by simp), xw_neC q_t q8 (by simp), xw_neC q_t q9 (by simp)⟩) q_t
    have e_sizes := r0 sizes_ _ (by obtain ⟨f8, q8⟩ := q_b; obtain ⟨f9, q9⟩ := q_l; simp only [List.mem_cons, List.not_mem_nil, or_false, not_or]; exact ⟨xw_neC q_z q_m (by simp), xw_neC q_z q8 (by simp), xw_neC q_z q9 (by simp)⟩) q_z
    refine s_Model_entriesOf_4 (fun z_1 => ?_) (fun z => absurd z (by decide))
    refine s_Model_entriesOf_87 ?_
    exact kk _ _ _ _ _ _ l e g_column ga0 e_begins e_lasts HT r0
  | succ dd ih =>
    intro i h t cl fb fl fs hi l e g_column ga0 e_begins e_lasts HT r0
    have g_texts := (ga0 7 (by decide)).trans q_texts
    have g_sizes := (ga0 8 (by decide)).trans q_sizes
    have g_begins := (ga0 53 (by decide)).trans q_begins
    have g_lasts := (ga0 54 (by decide)).trans q_lasts
    have e_texts := r0 texts_ _ (by obtain ⟨f8, q8⟩ := q_b; obtain ⟨f9, q9⟩ := q_l; simp only [List.mem_cons, List.not_mem_nil, or_false, not_or]; exact ⟨xw_neC q_t q_m (by simp), xw_neC q_t q8 (by simp), xw_neC q_t q9 (by simp)⟩) q_t
    have e_sizes := r0 sizes_ _ (by obtain ⟨f8, q8⟩ := q_b; obtain ⟨f9, q9⟩ := q_l; simp only [List.mem_cons, List.not_mem_nil, or_false, not_or]; exact ⟨xw_neC q_z q_m (by simp), xw_neC q_z q8 (by simp), xw_neC q_z q9 (by simp)⟩) q_z
    refine s_Model_entriesOf_4 (fun z => absurd z (nI_ge (b := 2) (show i < 2 by omega) (by decide))) (fun z_1 => ?_)
    refine s_Model_entriesOf_9 ?_
    obtain ⟨n9, hz9, hz9b⟩ := hz (2 * r + i) (by omega)
    refine x_callV (As := [.int (nI r), .int (nI i)]) (b := m) (rest := []) (F1 := 3) (L1 := 62) (mc := 0) (ms := 0) d_Model_entriesOf_12 cV_Model_153 (f_opens l e g_column g_texts e_texts g_sizes e_sizes g_begins e_begins g_lasts e_lasts nbl (show r < 24 by omega) (show i < 2 by omega) hz9 hz9b (by omega) (by omega)) e ⟨by decide, rfl⟩ ⟨by omega, by show 8 + (6 + 11) + 62 ≤ _; omega⟩ ⟨by omega, by omega⟩ (Nat.le_of_ble_eq_true rfl) (fun v_17 h_16 p_18 => ?_)
    obtain ⟨rfl, k_2, fb_3, fl_4, fs_5, l_6, e_7, g_8, ga_9, eb_10, el_11, TW_12, hk_13, TX_14, fr_15⟩ := p_18
    have e_19 := fr_15 texts_ _ (by simp only [List.mem_cons, List.not_mem_nil, or_false, not_or]; exact ⟨(xw_neC e_texts e (by simp)), (xw_neC e_texts e_begins (by simp)), (xw_neC e_texts e_lasts (by simp))⟩) e_texts
    have e_20 := fr_15 sizes_ _ (by simp only [List.mem_cons, List.not_mem_nil, or_false, not_or]; exact ⟨(xw_neC e_sizes e (by simp)), (xw_neC e_sizes e_begins (by simp)), (xw_neC e_sizes e_lasts (by simp))⟩) e_sizes
    have g_21 : fs_5[(7 : Nat)]? = some (.ref texts_) := (ga_9 7 (by decide)).trans g_texts
    have g_22 : fs_5[(8 : Nat)]? = some (.ref sizes_) := (ga_9 8 (by decide)).trans g_sizes
    have g_23 : fs_5[(53 : Nat)]? = some (.ref begins_) := (ga_9 53 (by decide)).trans g_begins
    have g_24 : fs_5[(54 : Nat)]? = some (.ref lasts_) := (ga_9 54 (by decide)).trans g_lasts
    have ga_25 : ∀ i : Nat, i ∉ [55] → fs_5[i]? = gs[i]? := fun i hi => (ga_9 i (fun z => hi (by simp only [List.mem_cons, List.not_mem_nil, or_false] at z ⊢; omega))).trans (ga0 i hi)
    have r_26 := r0.trans (fr_15.mono (by simp))
    refine s_Model_entriesOf_15 ?_
    have hk9 : k_2 ≤ 24 := by rw [hk_13]; have q1 := (tokN_half (fun j => ft (96 * r + 48 * i + j)) n9).1; omega
    refine lp_ent2 l_6 e_7 g_8 g_21 e_19 g_23 eb_10 g_24 el_11 nbl TW_12 TX_14 hk_13 hk9 (by omega) (by omega) (by omega) (fun t_27 ht_28 => ?_) k_2 0 _ (Nat.zero_add _) rfl
    refine s_Model_entriesOf_81 ?_
    rw [nI_1]
    exact ih (i + 1) _ _ _ _ _ _ (by omega) l_6 e_7 g_8 ga_25 eb_10 el_11 (by rw [tkS2, hz9, nI_clamp (by omega), ← hk_13, ← HT]; exact ht_28) r_26
set_option maxHeartbeats 1000000 in
theorem f_entriesOf {G : xw_G} {F L : Nat} {h : xw_A} {cl : Int32} {ft fz fb fl : Nat → Int32} {texts_ sizes_ begins_ lasts_ : Nat} {m : Nat} {fs : List Value} (l : fs.length = 62) (e : h m = some (.inr (11, fs))) (g_column : fs[(55 : Nat)]? = some (.int cl)) (g_texts : fs[(7 : Nat)]? = some (.ref texts_)) (e_texts : h texts_ = some (.inl (0, 2304, .inl (ft)))) (g_sizes : fs[(8 : Nat)]? = some (.ref sizes_)) (e_sizes : h sizes_ = some (.inl (0, 48, .inl (fz)))) (g_begins : fs[(53 : Nat)]? = some (.ref begins_)) (e_begins : h begins_ = some (.inl (0, 24, .inl (fb)))) (g_lasts : fs[(54 : Nat)]? = some (.ref lasts_)) (e_lasts : h lasts_ = some (.inl (0, 24, .inl (fl)))) (n_begins_lasts : begins_ ≠ lasts_) {r : Nat} (hr : r < 24) (hz : ∀ i, i < 48 → ∃ n, fz i = nI n ∧ n ≤ 48) (hF : 4 ≤ F) (hL : 87 ≤ L) :
    xw_Met G m_Model_entriesOf F L 0 0 [.ref m, .int (nI r)] h (fun v h' => (∃ y : Nat, v = some (.int (nI y)) ∧ y = tkS2 ft fz r 2) ∧ (∃ (cl' : Int32) (fb' fl' : Nat → Int32) (fs' : List Value), fs'.length = 62 ∧ h' m = some (.inr (11, fs')) ∧ fs'[(55 : Nat)]? = some (.int cl') ∧ (∀ i : Nat, i ∉ [55] → fs'[i]? = fs[i]?) ∧ h' begins_ = some (.inl (0, 24, .inl fb')) ∧ h' lasts_ = some (.inl (0, 24, .inl fl'))) ∧ FrO [m, begins_, lasts_] h h') (fun _ _ => False) := by
  refine xw_Met.of rfl (by decide) (Nat.le_of_ble_eq_true rfl) ?_
  refine s_Model_entriesOf_0 ?_
  exact lp_ent3 (gs := fs) (h0 := h) n_begins_lasts g_texts g_sizes g_begins g_lasts e_texts e_sizes e ⟨_, e_begins⟩ ⟨_, e_lasts⟩ hr hz (by omega) (by omega) (fun h9 t9 cl9 fb9 fl9 fs9 a1 a2 a3 a4 a5 a6 aT a7 => ⟨⟨t9, rfl, aT⟩, ⟨cl9, fb9, fl9, fs9, a1, a2, a3, a4, a5, a6⟩, a7⟩) 2 0 _ 0 _ _ _ _ rfl l e g_column (fun _ _ => rfl) e_begins e_lasts rfl FrO.rf
