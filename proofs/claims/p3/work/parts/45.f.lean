/-! the reference in general states: by program (wip/tools/gen3.py, gen4.py, gen5.py) -/
/-! THE REFERENCE: what a new version leaves -/
def SZo (fz : Nat → Int32) (n : Nat) : Prop := ∀ i, i < n → ∃ k, fz i = nI k ∧ k ≤ 48
theorem SZo.up {fz : Nat → Int32} {n i k : Nat} (h : SZo fz n) (hk : k ≤ 48) : SZo (upd fz i (nI k)) n := fun j hj => by
  by_cases q : j = i
  · subst q
    exact ⟨k, pk_us, hk⟩
  · rw [pk_un q]
    exact h j hj
/-- the row r has got the prepared texts, nothing else of the texts is changed -/
def TxG (fp fq ft fz : Nat → Int32) (r : Nat) (ft' fz' : Nat → Int32) : Prop := (∀ c, c < 2 → ∀ j, j < 48 → ft' (96 * r + 48 * c + j) = fp (48 * c + j)) ∧ (∀ k, (k < 96 * r ∨ 96 * r + 96 ≤ k) → ft' k = ft k) ∧ (∀ c, c < 2 → fz' (2 * r + c) = fq c) ∧ (∀ k, (k < 2 * r ∨ 2 * r + 2 ≤ k) → fz' k = fz k)
def GtP (m texts_ sizes_ begins_ lasts_ entries_ lies_ live_ row_ level_ : Nat) (gs : List Value) (fp fq ft0 fz0 fe0 fi0 fv fr fL : Nat → Int32) (r vs md sg mo : Nat) (li : Int32) (v : Option Value) (h0 h : xw_A) : Prop :=
  ∃ (md' sg' : Nat) (cl : Int32) (fs : List Value) (ft fz fb fl fe fi fr' fL' : Nat → Int32), md ≤ md' ∧ md' ≤ md + 6 ∧ sg' ≤ sg + 1 ∧ 2 * md' + gmC 5 (lvC fL' fr' sg') ≤ 5 + 2 * md + gmC 5 (lvC fL fr sg) ∧ fs.length = 62 ∧ h m = some (.inr (11, fs)) ∧ fs[(15 : Nat)]? = some (.int (nI (vs + 1))) ∧ fs[(16 : Nat)]? = some (.int (nI md')) ∧ fs[(19 : Nat)]? = some (.int (nI sg')) ∧ fs[(55 : Nat)]? = some (.int cl) ∧ (∀ i : Nat, i ∉ [15, 16, 19, 55] → fs[i]? = gs[i]?) ∧ h texts_ = some (.inl (0, 2304, .inl ft)) ∧ h sizes_ = some (.inl (0, 48, .inl fz)) ∧ h begins_ = some (.inl (0, 24, .inl fb)) ∧ h lasts_ = some (.inl (0, 24, .inl fl)) ∧ h entries_ = some (.inl (0, 600, .inl fe)) ∧ h lies_ = some (.inl (0, 600, .inl fi)) ∧ h live_ = some (.inl (0, 24, .inl (upd fv r (nI vs)))) ∧ h row_ = some (.inl (0, 600, .inl fr')) ∧ h level_ = some (.inl (0, 1300, .inl fL')) ∧ SZo fz 48 ∧ TxG fp fq ft0 fz0 r ft fz ∧ (∀ v, v < vs + 1 → fi v < 0 ∨ ∃ s, s < md' ∧ fi v = nI s) ∧ (∀ k, k < sg' → ∃ s, s < md' ∧ fr' k = nI s) ∧ (∀ s, s < md → fL' s = fL s) ∧ (∃ y : Nat, fe = upd fe0 vs (nI y) ∧ y = tkS2 ft fz r 2 ∧ v = some (.int (nI y))) ∧ ((¬ li < pnd (upd fi0 vs (-2)) fe (vs + 1) ∧ fi = upd fi0 vs (-2) ∧ fr' = fr ∧ fL' = fL ∧ md' = md ∧ sg' = sg) ∨ (li < pnd (upd fi0 vs (-2)) fe (vs + 1) ∧ FluS fe (upd fv r (nI vs)) (vs + 1) mo (upd fi0 vs (-2), fr, fL, md, sg) (fi, fr', fL', md', sg'))) ∧ FrO [m, texts_, sizes_, begins_, lasts_, entries_, lies_, live_, row_, level_] h0 h
set_option maxHeartbeats 2000000 in
theorem lp_gets1 {G : xw_G} {F L bc bs : Nat} {pr : Option Value → xw_A → Prop} {px : String → xw_A → Prop} {m prepared_ preparedSize_ texts_ sizes_ r : Nat} {gs : List Value} {fp fq : Nat → Int32} {h0 : xw_A} (l : gs.length = 62) (q_m : h0 m = some (.inr (11, gs))) (g_prepared : gs[(5 : Nat)]? = some (.ref prepared_)) (g_preparedSize : gs[(6 : Nat)]? = some (.ref preparedSize_)) (g_texts : gs[(7 : Nat)]? = some (.ref texts_)) (g_sizes : gs[(8 : Nat)]? = some (.ref sizes_)) (q_p : h0 prepared_ = some (.inl (0, 96, .inl fp))) (q_q : h0 preparedSize_ = some (.inl (0, 2, .inl fq))) (q_t : ∃ f, h0 texts_ = some (.inl (0, 2304, .inl f))) (q_z : ∃ f, h0 sizes_ = some (.inl (0, 48, .inl f))) (hr : r < 24) {cc : Nat} {ft0 fz1 : Nat → Int32} (hcc : cc < 2) (kk : ∀ (h : xw_A) (ft fz : Nat → Int32), h texts_ = some (.inl (0, 2304, .inl ft)) → h sizes_ = some (.inl (0, 48, .inl fz)) → SZo fz 48 → ((∀ j, j < 48 → ft (96 * r + 48 * cc + j) = fp (48 * cc + j)) ∧ (∀ k, (k < 96 * r + 48 * cc ∨ 96 * r + 48 * cc + 48 ≤ k) → ft k = ft0 k) ∧ fz = fz1) → FrO [texts_, sizes_] h0 h → xw G m_Model_gets F L bc bs pr px 64 [some (.ref m), some (.int (nI r)), some (.int (nI cc)), none] [] h) :
    ∀ (dd i : Nat) (h : xw_A) (ft : Nat → Int32) (fz : Nat → Int32), i + dd = 48 → h texts_ = some (.inl (0, 2304, .inl ft)) → h sizes_ = some (.inl (0, 48, .inl fz)) → SZo fz 48 → ((∀ j, j < i → ft (96 * r + 48 * cc + j) = fp (48 * cc + j)) ∧ (∀ k, (k < 96 * r + 48 * cc ∨ 96 * r + 48 * cc + 48 ≤ k) → ft k = ft0 k) ∧ fz = fz1) → FrO [texts_, sizes_] h0 h → xw G m_Model_gets F L bc bs pr px 25 [some (.ref m), some (.int (nI r)), some (.int (nI cc)), some (.int (nI i))] [] h := by
  intro dd
  induction dd with
  | zero =>
    intro i h ft fz hi e_texts e_sizes SZ CT r0
    obtain rfl : i = 48 := by omega
    have e := r0 m _ (by obtain ⟨f8, q8⟩ := q_t; obtain ⟨f9, q9⟩ := q_z; simp only [List.mem_cons, List.not_mem_nil, or_false, not_or]; exact ⟨xw_neC q_m q8 (by simp), xw_neC q_m q9 (by simp)⟩) q_m
    have e_prepared := r0 prepared_ _ (by obtain ⟨f8, q8⟩ := q_t; obtain ⟨f9, q9⟩ := q_z; simp only [List.mem_cons, List.not_mem_nil, or_false, not_or]; exact ⟨xw_neC q_p q8 (by simp), xw_neC q_p q9 (by simp)⟩) q_p
    have e_preparedSize := r0 preparedSize_ _ (by obtain ⟨f8, q8⟩ := q_t; obtain ⟨f9, q9⟩ := q_z; simp only [List.mem_cons, List.not_mem_nil, or_false, not_or]; exact ⟨xw_neC q_q q8 (by simp), xw_neC q_q q9 (by simp)⟩) q_q
    refine s_Model_gets_25 (fun z_1 => ?_) (fun z => absurd z (by decide))
    exact kk _ _ _ e_texts e_sizes SZ CT r0
  | succ dd ih =>
    intro i h ft fz hi e_texts e_sizes SZ CT r0
    have e := r0 m _ (by obtain ⟨f8, q8⟩ := q_t; obtain ⟨f9, q9⟩ := q_z; simp only [List.mem_cons, List.not_mem_nil, or_false, not_or]; exact ⟨xw_neC q_m q8 (by simp), xw_neC q_m q9 (by simp)⟩) q_m
    have e_prepared := r0 prepared_ _ (by obtain ⟨f8, q8⟩ := q_t; obtain ⟨f9, q9⟩ := q_z; simp only [List.mem_cons, List.not_mem_nil, or_false, not_or]; exact ⟨xw_neC q_p q8 (by simp), xw_neC q_p q9 (by simp)⟩) q_p
    have e_preparedSize := r0 preparedSize_ _ (by obtain ⟨f8, q8⟩ := q_t; obtain ⟨f9, q9⟩ := q_z; simp only [List.mem_cons, List.not_mem_nil, or_false, not_or]; exact ⟨xw_neC q_q q8 (by simp), xw_neC q_q q9 (by simp)⟩) q_q
    refine s_Model_gets_25 (fun z => absurd z (nI_ge (b := 48) (show i < 48 by omega) (by decide))) (fun z_1 => ?_)
    refine s_Model_gets_31 l e g_texts g_prepared e_prepared (by rw [show (48 : Int32) = nI 48 from rfl, pk_mul, nI_add]; exact vp_in_nI (by omega) (by decide)) e_texts (by rw [show (96 : Int32) = nI 96 from rfl, show (48 : Int32) = nI 48 from rfl, pk_mul, pk_mul, nI_add, nI_add]; exact vp_in_nI (by omega) (by decide)) ?_
    refine x_u1 (fun h_2 e_3 f_4 => ?_)
    have e_5 := (f_4 prepared_ (xw_neC e_prepared e_texts (by simp))).trans e_prepared
    have e_6 := (f_4 preparedSize_ (xw_neC e_preparedSize e_texts (by simp))).trans e_preparedSize
    have e_7 := (f_4 sizes_ (xw_neC e_sizes e_texts (by simp))).trans e_sizes
    have e_8 := (f_4 m (xw_neC e e_texts (by simp))).trans e
    have r_9 := r0.up (by simp) f_4
    rw [nI_1]
    rw [show (96 : Int32) = nI 96 from rfl, show (48 : Int32) = nI 48 from rfl, pk_mul, pk_mul, nI_add, nI_add, nI_add, nI_clamp (show 96 * r + 48 * cc + i < 2 ^ 31 by omega), nI_clamp (show 48 * cc + i < 2 ^ 31 by omega)] at e_3
    exact ih (i + 1) _ _ _ (by omega) e_3 e_7 SZ ⟨fun j hj => by by_cases q : j = i; (rw [q]; exact pk_us); (have q2 : ¬ 96 * r + 48 * cc + j = 96 * r + 48 * cc + i := (by omega); rw [pk_un q2]; exact CT.1 j (by omega)), fun k hk => by have q2 : ¬ k = 96 * r + 48 * cc + i := (by omega); rw [pk_un q2]; exact CT.2.1 k hk, CT.2.2⟩ r_9
set_option maxHeartbeats 2000000 in
theorem lp_gets2 {G : xw_G} {F L bc bs : Nat} {pr : Option Value → xw_A → Prop} {px : String → xw_A → Prop} {m prepared_ preparedSize_ texts_ sizes_ r : Nat} {gs : List Value} {fp fq : Nat → Int32} {h0 : xw_A} (l : gs.length = 62) (q_m : h0 m = some (.inr (11, gs))) (g_prepared : gs[(5 : Nat)]? = some (.ref prepared_)) (g_preparedSize : gs[(6 : Nat)]? = some (.ref preparedSize_)) (g_texts : gs[(7 : Nat)]? = some (.ref texts_)) (g_sizes : gs[(8 : Nat)]? = some (.ref sizes_)) (q_p : h0 prepared_ = some (.inl (0, 96, .inl fp))) (q_q : h0 preparedSize_ = some (.inl (0, 2, .inl fq))) (q_t : ∃ f, h0 texts_ = some (.inl (0, 2304, .inl f))) (q_z : ∃ f, h0 sizes_ = some (.inl (0, 48, .inl f))) (hr : r < 24) {ft0 fz0 : Nat → Int32} (hps : ∀ c, c < 2 → ∃ n, fq c = nI n ∧ n ≤ 48) (kk : ∀ (h : xw_A) (ft fz : Nat → Int32), h texts_ = some (.inl (0, 2304, .inl ft)) → h sizes_ = some (.inl (0, 48, .inl fz)) → SZo fz 48 → ((∀ c, c < 2 → ∀ j, j < 48 → ft (96 * r + 48 * c + j) = fp (48 * c + j)) ∧ (∀ k, (k < 96 * r ∨ 96 * r + 96 ≤ k) → ft k = ft0 k) ∧ (∀ c, c < 2 → fz (2 * r + c) = fq c) ∧ (∀ k, (k < 2 * r ∨ 2 * r + 2 ≤ k) → fz k = fz0 k)) → FrO [texts_, sizes_] h0 h → xw G m_Model_gets F L bc bs pr px 70 [some (.ref m), some (.int (nI r)), none, none] [] h) :
    ∀ (dd i : Nat) (h : xw_A) (ft : Nat → Int32) (fz : Nat → Int32), i + dd = 2 → h texts_ = some (.inl (0, 2304, .inl ft)) → h sizes_ = some (.inl (0, 48, .inl fz)) → SZo fz 48 → ((∀ c, c < i → ∀ j, j < 48 → ft (96 * r + 48 * c + j) = fp (48 * c + j)) ∧ (∀ k, (k < 96 * r ∨ 96 * r + 96 ≤ k) → ft k = ft0 k) ∧ (∀ c, c < i → fz (2 * r + c) = fq c) ∧ (∀ k, (k < 2 * r ∨ 2 * r + 2 ≤ k) → fz k = fz0 k)) → FrO [texts_, sizes_] h0 h → xw G m_Model_gets F L bc bs pr px 2 [some (.ref m), some (.int (nI r)), some (.int (nI i)), none] [] h := by
  intro dd
  induction dd with
  | zero =>
    intro i h ft fz hi e_texts e_sizes SZ CT r0
    obtain rfl : i = 2 := by omega
    have e := r0 m _ (by obtain ⟨f8, q8⟩ := q_t; obtain ⟨f9, q9⟩ := q_z; simp only [List.mem_cons, List.not_mem_nil, or_false, not_or]; exact ⟨xw_neC q_m q8 (by simp), xw_neC q_m q9 (by simp)⟩) q_m
    have e_prepared := r0 prepared_ _ (by obtain ⟨f8, q8⟩ := q_t; obtain ⟨f9, q9⟩ := q_z; simp only [List.mem_cons, List.not_mem_nil, or_false, not_or]; exact ⟨xw_neC q_p q8 (by simp), xw_neC q_p q9 (by simp)⟩) q_p
    have e_preparedSize := r0 preparedSize_ _ (by obtain ⟨f8, q8⟩ := q_t; obtain ⟨f9, q9⟩ := q_z; simp only [List.mem_cons, List.not_mem_nil, or_false, not_or]; exact ⟨xw_neC q_q q8 (by simp), xw_neC q_q q9 (by simp)⟩) q_q
    refine s_Model_gets_2 (fun z_1 => ?_) (fun z => absurd z (by decide))
    exact kk _ _ _ e_texts e_sizes SZ CT r0
  | succ dd ih =>
    intro i h ft fz hi e_texts e_sizes SZ CT r0
    have e := r0 m _ (by obtain ⟨f8, q8⟩ := q_t; obtain ⟨f9, q9⟩ := q_z; simp only [List.mem_cons, List.not_mem_nil, or_false, not_or]; exact ⟨xw_neC q_m q8 (by simp), xw_neC q_m q9 (by simp)⟩) q_m
    have e_prepared := r0 prepared_ _ (by obtain ⟨f8, q8⟩ := q_t; obtain ⟨f9, q9⟩ := q_z; simp only [List.mem_cons, List.not_mem_nil, or_false, not_or]; exact ⟨xw_neC q_p q8 (by simp), xw_neC q_p q9 (by simp)⟩) q_p
    have e_preparedSize := r0 preparedSize_ _ (by obtain ⟨f8, q8⟩ := q_t; obtain ⟨f9, q9⟩ := q_z; simp only [List.mem_cons, List.not_mem_nil, or_false, not_or]; exact ⟨xw_neC q_q q8 (by simp), xw_neC q_q q9 (by simp)⟩) q_q
    refine s_Model_gets_2 (fun z => absurd z (nI_ge (b := 2) (show i < 2 by omega) (by decide))) (fun z_1 => ?_)
    refine s_Model_gets_7 l e g_sizes g_preparedSize e_preparedSize (vp_in_nI (by omega) (by omega)) e_sizes (by rw [show (2 : Int32) = nI 2 from rfl, pk_mul, nI_add]; exact vp_in_nI (by omega) (by decide)) ?_
    refine x_u1 (fun h_2 e_3 f_4 => ?_)
    have e_5 := (f_4 prepared_ (xw_neC e_prepared e_sizes (by simp))).trans e_prepared
    have e_6 := (f_4 preparedSize_ (xw_neC e_preparedSize e_sizes (by simp))).trans e_preparedSize
    have e_7 := (f_4 texts_ (xw_neC e_texts e_sizes (by simp))).trans e_texts
    have e_8 := (f_4 m (xw_neC e e_sizes (by simp))).trans e
    have r_9 := r0.up (by simp) f_4
    rw [nI_clamp (show i < 2 ^ 31 by omega)] at e_3
    obtain ⟨k9, hk9, hk8⟩ := hps i (by omega)
    rw [hk9, show (2 : Int32) = nI 2 from rfl, pk_mul, nI_add, nI_clamp (show 2 * r + i < 2 ^ 31 by omega)] at e_3
    refine lp_gets1 l q_m g_prepared g_preparedSize g_texts g_sizes q_p q_q q_t q_z hr (show i < 2 by omega) (fun h_10 ft_11 fz_12 e_13 e_14 SZ_15 CT_16 r_17 => ?_) 48 0 _ _ _ rfl e_7 e_3 (SZ.up hk8) ⟨fun j hj => absurd hj (Nat.not_lt_zero _), fun _ _ => rfl, rfl⟩ r_9
    refine s_Model_gets_64 ?_
    rw [nI_1]
    exact ih (i + 1) _ _ _ (by omega) e_13 e_14 SZ_15 ⟨fun c hc j hj => by by_cases q : c = i; (rw [q]; exact CT_16.1 j hj); (rw [CT_16.2.1 (96 * r + 48 * c + j) (by omega)]; exact CT.1 c (by omega) j hj), fun k hk => by rw [CT_16.2.1 k (by omega)]; exact CT.2.1 k hk, fun c hc => by rw [CT_16.2.2]; by_cases q : c = i; (rw [q, pk_us, hk9]); (have q2 : ¬ 2 * r + c = 2 * r + i := (by omega); rw [pk_un q2]; exact CT.2.2.1 c (by omega)), fun k hk => by rw [CT_16.2.2]; have q2 : ¬ k = 2 * r + i := (by omega); rw [pk_un q2]; exact CT.2.2.2 k hk⟩ r_17
