/-! THE CONSTRUCTOR OF PhraseShelfModel (made by wip/tools/mkmodel.py) -/
abbrev bz (m : Nat) : xw_C := .inl (4, m, .inl (fun _ => 0))
/-- the fields of a new PhraseShelfModel -/
abbrev mfs (m0 m1 m2 m3 m4 m5 m6 m7 m8 m9 m10 m11 m12 m13 m14 m15 m16 m17 m18 m19 m20 m21 m22 m23 m24 m25 m26 m27 m28 m29 m30 m31 m32 m33 m34 : Nat) : List Value := ((.int 0 :: .int 3 :: .int 20 :: .ref m0 :: .ref m1 :: .ref m2 :: .ref m3 :: .ref m4 :: .ref m5 :: .ref m6 :: .int 0 :: .int 0 :: .ref m7 :: .ref m8 :: .ref m9 :: .int 0 :: .int 0 :: .ref m10 :: .ref m11 :: .int 0 :: .int 0 :: .ref m12 :: .ref m13 :: .ref m14 :: .ref m15 :: .ref m16 :: .int 0 :: .int 0 :: .int 0 :: .int 0 :: .int 0 :: .int 0 :: .int (-1) :: .int (-1) :: .int 0 :: .int 0 :: .int 0 :: .int 0 :: .int 0 :: .int 0 :: .int 0 :: .ref m17 :: .ref m18 :: .ref m19 :: .ref m20 :: .ref m21 :: .ref m22 :: .ref m23 :: .ref m24 :: .ref m25 :: .ref m26 :: .ref m27 :: .ref m28 :: .ref m29 :: .ref m30 :: .int 0 :: .int 0 :: .ref m31 :: .ref m32 :: .ref m33 :: .ref m34 :: .int 0 :: []) : List Value)
def mset (fs : List Value) (m0 m1 m2 m3 m4 m5 m6 m7 m8 m9 m10 m11 m12 m13 m14 m15 m16 m17 m18 m19 m20 m21 m22 m23 m24 m25 m26 m27 m28 m29 m30 m31 m32 m33 m34 : Nat) : List Value := (((((((((((((((((((((((((((((((((((((((fs.set 1 (.int 3)).set 2 (.int 20)).set 3 (.ref m0)).set 4 (.ref m1)).set 5 (.ref m2)).set 6 (.ref m3)).set 7 (.ref m4)).set 8 (.ref m5)).set 9 (.ref m6)).set 12 (.ref m7)).set 13 (.ref m8)).set 14 (.ref m9)).set 17 (.ref m10)).set 18 (.ref m11)).set 21 (.ref m12)).set 22 (.ref m13)).set 23 (.ref m14)).set 24 (.ref m15)).set 25 (.ref m16)).set 32 (.int (-1))).set 33 (.int (-1))).set 41 (.ref m17)).set 42 (.ref m18)).set 43 (.ref m19)).set 44 (.ref m20)).set 45 (.ref m21)).set 46 (.ref m22)).set 47 (.ref m23)).set 48 (.ref m24)).set 49 (.ref m25)).set 50 (.ref m26)).set 51 (.ref m27)).set 52 (.ref m28)).set 53 (.ref m29)).set 54 (.ref m30)).set 57 (.ref m31)).set 58 (.ref m32)).set 59 (.ref m33)).set 60 (.ref m34))
abbrev mfs0 : List Value := ((.int 0 :: .int 0 :: .int 0 :: .null :: .null :: .null :: .null :: .null :: .null :: .null :: .int 0 :: .int 0 :: .null :: .null :: .null :: .int 0 :: .int 0 :: .null :: .null :: .int 0 :: .int 0 :: .null :: .null :: .null :: .null :: .null :: .int 0 :: .int 0 :: .int 0 :: .int 0 :: .int 0 :: .int 0 :: .int 0 :: .int 0 :: .int 0 :: .int 0 :: .int 0 :: .int 0 :: .int 0 :: .int 0 :: .int 0 :: .null :: .null :: .null :: .null :: .null :: .null :: .null :: .null :: .null :: .null :: .null :: .null :: .null :: .null :: .int 0 :: .int 0 :: .null :: .null :: .null :: .null :: .int 0 :: []) : List Value)
/-- its arrays -/
abbrev mcs (lf wf : Nat → Int32) : List xw_C := [iz 96, iz 96, iz 96, iz 2, iz 2304, iz 48, .inl (0, 2, .inl wf), iz 600, iz 600, .inl (0, 24, .inl lf), iz 600, iz 1300, iz 2304, iz 48, iz 600, iz 24, iz 600, iz 13, iz 13, iz 60, iz 60, iz 13, iz 13, iz 13, iz 13, iz 13, iz 60, iz 60, iz 60, iz 24, iz 24, bz 60, iz 24, iz 24, dz 24]
section CtorM
variable {G : xw_G} {F L i a : Nat} {as : List Nat} {cs : List xw_C} {h : xw_A}
theorem mo_0 {pr : Option Value → xw_A → Prop} {bc bs : Nat} {B : List Nat} {D : List xw_C} {fs : List Value} (hF : 1 ≤ F) (hL : 12 ≤ L) (hu : 1 ≤ bc ∧ 96 ≤ bs) (hl : as.length = cs.length) (ha : as[i]? = some a) (hf : fs.length = 62) (K : SL (as ++ B) (cs.set i (.inr (11, fs)) ++ D) h)
    (k : ∀ (q18 : Nat) (h' : xw_A), SL (as ++ (B ++ [q18])) (cs.set i (.inr (11, (((fs.set 1 (.int 3)).set 2 (.int 20)).set 3 (.ref q18)))) ++ (D ++ [iz 96])) h' → xw G m_Model_init F L (bc - 1) (bs - 96) pr (fun _ _ => False) 23 [some (.ref a), none] [] h') :
    xw G m_Model_init F L bc bs pr (fun _ _ => False) 0 [some (.ref a), none] [] h := by
  have hi : i < cs.length := hl ▸ (List.getElem?_eq_some_iff.mp ha).1
  refine s_Model_init_0 (fs_a0 := fs) ⟨by omega, by omega⟩ hf (K.atL i ha (List.getElem?_set_self hi)) (by omega) (fun q18 hq18 => ?_)
  have K' := ((((K.upL (by simp [hl]) i (e := .inr (11, (fs.set 1 (.int 3)))) ha).upL (by simp [hl]) i (e := .inr (11, ((fs.set 1 (.int 3)).set 2 (.int 20)))) ha).newR (e := iz 96) hq18 rfl rfl).upL (by simp [hl]) i (e := .inr (11, (((fs.set 1 (.int 3)).set 2 (.int 20)).set 3 (.ref q18)))) ha)
  simp only [List.set_set, List.append_assoc, List.cons_append, List.nil_append] at K'
  try simp only [Nat.sub_sub]
  exact k q18 _ K'

theorem mo_23 {pr : Option Value → xw_A → Prop} {bc bs : Nat} {B : List Nat} {D : List xw_C} {fs : List Value} (hF : 1 ≤ F) (hL : 12 ≤ L) (hu : 2 ≤ bc ∧ 192 ≤ bs) (hl : as.length = cs.length) (ha : as[i]? = some a) (hf : fs.length = 62) (K : SL (as ++ B) (cs.set i (.inr (11, fs)) ++ D) h)
    (k : ∀ (q26 q34 : Nat) (h' : xw_A), SL (as ++ (B ++ [q26, q34])) (cs.set i (.inr (11, ((fs.set 4 (.ref q26)).set 5 (.ref q34)))) ++ (D ++ [iz 96, iz 96])) h' → xw G m_Model_init F L (bc - 2) (bs - 192) pr (fun _ _ => False) 39 [some (.ref a), none] [] h') :
    xw G m_Model_init F L bc bs pr (fun _ _ => False) 23 [some (.ref a), none] [] h := by
  have hi : i < cs.length := hl ▸ (List.getElem?_eq_some_iff.mp ha).1
  refine s_Model_init_23 (fs_a0 := fs) (by omega) hf (K.atL i ha (List.getElem?_set_self hi)) (by omega) (fun q26 hq26 q34 hq34 => ?_)
  have K' := ((((K.newR (e := iz 96) hq26 rfl rfl).upL (by simp [hl]) i (e := .inr (11, (fs.set 4 (.ref q26)))) ha).newR (e := iz 96) hq34 rfl rfl).upL (by simp [hl]) i (e := .inr (11, ((fs.set 4 (.ref q26)).set 5 (.ref q34)))) ha)
  simp only [List.set_set, List.append_assoc, List.cons_append, List.nil_append] at K'
  try simp only [Nat.sub_sub]
  exact k q26 q34 _ K'

theorem mo_39 {pr : Option Value → xw_A → Prop} {bc bs : Nat} {B : List Nat} {D : List xw_C} {fs : List Value} (hF : 1 ≤ F) (hL : 12 ≤ L) (hu : 2 ≤ bc ∧ 2306 ≤ bs) (hl : as.length = cs.length) (ha : as[i]? = some a) (hf : fs.length = 62) (K : SL (as ++ B) (cs.set i (.inr (11, fs)) ++ D) h)
    (k : ∀ (q41 q50 : Nat) (h' : xw_A), SL (as ++ (B ++ [q41, q50])) (cs.set i (.inr (11, ((fs.set 6 (.ref q41)).set 7 (.ref q50)))) ++ (D ++ [iz 2, iz 2304])) h' → xw G m_Model_init F L (bc - 2) (bs - 2306) pr (fun _ _ => False) 55 [some (.ref a), none] [] h') :
    xw G m_Model_init F L bc bs pr (fun _ _ => False) 39 [some (.ref a), none] [] h := by
  have hi : i < cs.length := hl ▸ (List.getElem?_eq_some_iff.mp ha).1
  refine s_Model_init_39 (fs_a0 := fs) (by omega) hf (K.atL i ha (List.getElem?_set_self hi)) (by omega) (fun q41 hq41 q50 hq50 => ?_)
  have K' := ((((K.newR (e := iz 2) hq41 rfl rfl).upL (by simp [hl]) i (e := .inr (11, (fs.set 6 (.ref q41)))) ha).newR (e := iz 2304) hq50 rfl rfl).upL (by simp [hl]) i (e := .inr (11, ((fs.set 6 (.ref q41)).set 7 (.ref q50)))) ha)
  simp only [List.set_set, List.append_assoc, List.cons_append, List.nil_append] at K'
  try simp only [Nat.sub_sub]
  exact k q41 q50 _ K'

theorem mo_55 {pr : Option Value → xw_A → Prop} {bc bs : Nat} {B : List Nat} {D : List xw_C} {fs : List Value} (hF : 1 ≤ F) (hL : 12 ≤ L) (hu : 2 ≤ bc ∧ 50 ≤ bs) (hl : as.length = cs.length) (ha : as[i]? = some a) (hf : fs.length = 62) (K : SL (as ++ B) (cs.set i (.inr (11, fs)) ++ D) h)
    (k : ∀ (q58 q65 : Nat) (h' : xw_A), SL (as ++ (B ++ [q58, q65])) (cs.set i (.inr (11, ((fs.set 8 (.ref q58)).set 9 (.ref q65)))) ++ (D ++ [iz 48, iz 2])) h' → xw G m_Model_init F L (bc - 2) (bs - 50) pr (fun _ _ => False) 70 [some (.ref a), none] [] h') :
    xw G m_Model_init F L bc bs pr (fun _ _ => False) 55 [some (.ref a), none] [] h := by
  have hi : i < cs.length := hl ▸ (List.getElem?_eq_some_iff.mp ha).1
  refine s_Model_init_55 (fs_a0 := fs) (by omega) hf (K.atL i ha (List.getElem?_set_self hi)) (by omega) (fun q58 hq58 q65 hq65 => ?_)
  have K' := ((((K.newR (e := iz 48) hq58 rfl rfl).upL (by simp [hl]) i (e := .inr (11, (fs.set 8 (.ref q58)))) ha).newR (e := iz 2) hq65 rfl rfl).upL (by simp [hl]) i (e := .inr (11, ((fs.set 8 (.ref q58)).set 9 (.ref q65)))) ha)
  simp only [List.set_set, List.append_assoc, List.cons_append, List.nil_append] at K'
  try simp only [Nat.sub_sub]
  exact k q58 q65 _ K'

theorem mo_70 {pr : Option Value → xw_A → Prop} {bc bs : Nat} {B : List Nat} {D : List xw_C} {fs : List Value} (hF : 1 ≤ F) (hL : 12 ≤ L) (hu : 2 ≤ bc ∧ 1200 ≤ bs) (hl : as.length = cs.length) (ha : as[i]? = some a) (hf : fs.length = 62) (K : SL (as ++ B) (cs.set i (.inr (11, fs)) ++ D) h)
    (k : ∀ (q74 q83 : Nat) (h' : xw_A), SL (as ++ (B ++ [q74, q83])) (cs.set i (.inr (11, ((fs.set 12 (.ref q74)).set 13 (.ref q83)))) ++ (D ++ [iz 600, iz 600])) h' → xw G m_Model_init F L (bc - 2) (bs - 1200) pr (fun _ _ => False) 88 [some (.ref a), none] [] h') :
    xw G m_Model_init F L bc bs pr (fun _ _ => False) 70 [some (.ref a), none] [] h := by
  have hi : i < cs.length := hl ▸ (List.getElem?_eq_some_iff.mp ha).1
  refine s_Model_init_70 (fs_a0 := fs) (by omega) hf (K.atL i ha (List.getElem?_set_self hi)) (by omega) (fun q74 hq74 q83 hq83 => ?_)
  have K' := ((((K.newR (e := iz 600) hq74 rfl rfl).upL (by simp [hl]) i (e := .inr (11, (fs.set 12 (.ref q74)))) ha).newR (e := iz 600) hq83 rfl rfl).upL (by simp [hl]) i (e := .inr (11, ((fs.set 12 (.ref q74)).set 13 (.ref q83)))) ha)
  simp only [List.set_set, List.append_assoc, List.cons_append, List.nil_append] at K'
  try simp only [Nat.sub_sub]
  exact k q74 q83 _ K'

theorem mo_88 {pr : Option Value → xw_A → Prop} {bc bs : Nat} {B : List Nat} {D : List xw_C} {fs : List Value} (hF : 1 ≤ F) (hL : 12 ≤ L) (hu : 2 ≤ bc ∧ 624 ≤ bs) (hl : as.length = cs.length) (ha : as[i]? = some a) (hf : fs.length = 62) (K : SL (as ++ B) (cs.set i (.inr (11, fs)) ++ D) h)
    (k : ∀ (q91 q100 : Nat) (h' : xw_A), SL (as ++ (B ++ [q91, q100])) (cs.set i (.inr (11, ((fs.set 14 (.ref q91)).set 17 (.ref q100)))) ++ (D ++ [iz 24, iz 600])) h' → xw G m_Model_init F L (bc - 2) (bs - 624) pr (fun _ _ => False) 105 [some (.ref a), none] [] h') :
    xw G m_Model_init F L bc bs pr (fun _ _ => False) 88 [some (.ref a), none] [] h := by
  have hi : i < cs.length := hl ▸ (List.getElem?_eq_some_iff.mp ha).1
  refine s_Model_init_88 (fs_a0 := fs) (by omega) hf (K.atL i ha (List.getElem?_set_self hi)) (by omega) (fun q91 hq91 q100 hq100 => ?_)
  have K' := ((((K.newR (e := iz 24) hq91 rfl rfl).upL (by simp [hl]) i (e := .inr (11, (fs.set 14 (.ref q91)))) ha).newR (e := iz 600) hq100 rfl rfl).upL (by simp [hl]) i (e := .inr (11, ((fs.set 14 (.ref q91)).set 17 (.ref q100)))) ha)
  simp only [List.set_set, List.append_assoc, List.cons_append, List.nil_append] at K'
  try simp only [Nat.sub_sub]
  exact k q91 q100 _ K'

theorem mo_105 {pr : Option Value → xw_A → Prop} {bc bs : Nat} {B : List Nat} {D : List xw_C} {fs : List Value} (hF : 1 ≤ F) (hL : 12 ≤ L) (hu : 2 ≤ bc ∧ 3604 ≤ bs) (hl : as.length = cs.length) (ha : as[i]? = some a) (hf : fs.length = 62) (K : SL (as ++ B) (cs.set i (.inr (11, fs)) ++ D) h)
    (k : ∀ (q109 q118 : Nat) (h' : xw_A), SL (as ++ (B ++ [q109, q118])) (cs.set i (.inr (11, ((fs.set 18 (.ref q109)).set 21 (.ref q118)))) ++ (D ++ [iz 1300, iz 2304])) h' → xw G m_Model_init F L (bc - 2) (bs - 3604) pr (fun _ _ => False) 123 [some (.ref a), none] [] h') :
    xw G m_Model_init F L bc bs pr (fun _ _ => False) 105 [some (.ref a), none] [] h := by
  have hi : i < cs.length := hl ▸ (List.getElem?_eq_some_iff.mp ha).1
  refine s_Model_init_105 (fs_a0 := fs) (by omega) hf (K.atL i ha (List.getElem?_set_self hi)) (by omega) (fun q109 hq109 q118 hq118 => ?_)
  have K' := ((((K.newR (e := iz 1300) hq109 rfl rfl).upL (by simp [hl]) i (e := .inr (11, (fs.set 18 (.ref q109)))) ha).newR (e := iz 2304) hq118 rfl rfl).upL (by simp [hl]) i (e := .inr (11, ((fs.set 18 (.ref q109)).set 21 (.ref q118)))) ha)
  simp only [List.set_set, List.append_assoc, List.cons_append, List.nil_append] at K'
  try simp only [Nat.sub_sub]
  exact k q109 q118 _ K'

theorem mo_123 {pr : Option Value → xw_A → Prop} {bc bs : Nat} {B : List Nat} {D : List xw_C} {fs : List Value} (hF : 1 ≤ F) (hL : 12 ≤ L) (hu : 2 ≤ bc ∧ 648 ≤ bs) (hl : as.length = cs.length) (ha : as[i]? = some a) (hf : fs.length = 62) (K : SL (as ++ B) (cs.set i (.inr (11, fs)) ++ D) h)
    (k : ∀ (q126 q135 : Nat) (h' : xw_A), SL (as ++ (B ++ [q126, q135])) (cs.set i (.inr (11, ((fs.set 22 (.ref q126)).set 23 (.ref q135)))) ++ (D ++ [iz 48, iz 600])) h' → xw G m_Model_init F L (bc - 2) (bs - 648) pr (fun _ _ => False) 140 [some (.ref a), none] [] h') :
    xw G m_Model_init F L bc bs pr (fun _ _ => False) 123 [some (.ref a), none] [] h := by
  have hi : i < cs.length := hl ▸ (List.getElem?_eq_some_iff.mp ha).1
  refine s_Model_init_123 (fs_a0 := fs) (by omega) hf (K.atL i ha (List.getElem?_set_self hi)) (by omega) (fun q126 hq126 q135 hq135 => ?_)
  have K' := ((((K.newR (e := iz 48) hq126 rfl rfl).upL (by simp [hl]) i (e := .inr (11, (fs.set 22 (.ref q126)))) ha).newR (e := iz 600) hq135 rfl rfl).upL (by simp [hl]) i (e := .inr (11, ((fs.set 22 (.ref q126)).set 23 (.ref q135)))) ha)
  simp only [List.set_set, List.append_assoc, List.cons_append, List.nil_append] at K'
  try simp only [Nat.sub_sub]
  exact k q126 q135 _ K'

theorem mo_140 {pr : Option Value → xw_A → Prop} {bc bs : Nat} {B : List Nat} {D : List xw_C} {fs : List Value} (hF : 1 ≤ F) (hL : 12 ≤ L) (hu : 2 ≤ bc ∧ 624 ≤ bs) (hl : as.length = cs.length) (ha : as[i]? = some a) (hf : fs.length = 62) (K : SL (as ++ B) (cs.set i (.inr (11, fs)) ++ D) h)
    (k : ∀ (q143 q152 : Nat) (h' : xw_A), SL (as ++ (B ++ [q143, q152])) (cs.set i (.inr (11, ((fs.set 24 (.ref q143)).set 25 (.ref q152)))) ++ (D ++ [iz 24, iz 600])) h' → xw G m_Model_init F L (bc - 2) (bs - 624) pr (fun _ _ => False) 157 [some (.ref a), none] [] h') :
    xw G m_Model_init F L bc bs pr (fun _ _ => False) 140 [some (.ref a), none] [] h := by
  have hi : i < cs.length := hl ▸ (List.getElem?_eq_some_iff.mp ha).1
  refine s_Model_init_140 (fs_a0 := fs) (by omega) hf (K.atL i ha (List.getElem?_set_self hi)) (by omega) (fun q143 hq143 q152 hq152 => ?_)
  have K' := ((((K.newR (e := iz 24) hq143 rfl rfl).upL (by simp [hl]) i (e := .inr (11, (fs.set 24 (.ref q143)))) ha).newR (e := iz 600) hq152 rfl rfl).upL (by simp [hl]) i (e := .inr (11, ((fs.set 24 (.ref q143)).set 25 (.ref q152)))) ha)
  simp only [List.set_set, List.append_assoc, List.cons_append, List.nil_append] at K'
  try simp only [Nat.sub_sub]
  exact k q143 q152 _ K'

theorem mo_157 {pr : Option Value → xw_A → Prop} {bc bs : Nat} {B : List Nat} {D : List xw_C} {fs : List Value} (hF : 1 ≤ F) (hL : 12 ≤ L) (hu : 1 ≤ bc ∧ 13 ≤ bs) (hl : as.length = cs.length) (ha : as[i]? = some a) (hf : fs.length = 62) (K : SL (as ++ B) (cs.set i (.inr (11, fs)) ++ D) h)
    (k : ∀ (q170 : Nat) (h' : xw_A), SL (as ++ (B ++ [q170])) (cs.set i (.inr (11, (((fs.set 32 (.int (-1))).set 33 (.int (-1))).set 41 (.ref q170)))) ++ (D ++ [iz 13])) h' → xw G m_Model_init F L (bc - 1) (bs - 13) pr (fun _ _ => False) 175 [some (.ref a), none] [] h') :
    xw G m_Model_init F L bc bs pr (fun _ _ => False) 157 [some (.ref a), none] [] h := by
  have hi : i < cs.length := hl ▸ (List.getElem?_eq_some_iff.mp ha).1
  refine s_Model_init_157 (fs_a0 := fs) hf (K.atL i ha (List.getElem?_set_self hi)) (by omega) (fun q170 hq170 => ?_)
  have K' := ((((K.upL (by simp [hl]) i (e := .inr (11, (fs.set 32 (.int (-1))))) ha).upL (by simp [hl]) i (e := .inr (11, ((fs.set 32 (.int (-1))).set 33 (.int (-1))))) ha).newR (e := iz 13) hq170 rfl rfl).upL (by simp [hl]) i (e := .inr (11, (((fs.set 32 (.int (-1))).set 33 (.int (-1))).set 41 (.ref q170)))) ha)
  simp only [List.set_set, List.append_assoc, List.cons_append, List.nil_append] at K'
  try simp only [Nat.sub_sub]
  exact k q170 _ K'

theorem mo_175 {pr : Option Value → xw_A → Prop} {bc bs : Nat} {B : List Nat} {D : List xw_C} {fs : List Value} (hF : 1 ≤ F) (hL : 12 ≤ L) (hu : 2 ≤ bc ∧ 73 ≤ bs) (hl : as.length = cs.length) (ha : as[i]? = some a) (hf : fs.length = 62) (K : SL (as ++ B) (cs.set i (.inr (11, fs)) ++ D) h)
    (k : ∀ (q178 q186 : Nat) (h' : xw_A), SL (as ++ (B ++ [q178, q186])) (cs.set i (.inr (11, ((fs.set 42 (.ref q178)).set 43 (.ref q186)))) ++ (D ++ [iz 13, iz 60])) h' → xw G m_Model_init F L (bc - 2) (bs - 73) pr (fun _ _ => False) 191 [some (.ref a), none] [] h') :
    xw G m_Model_init F L bc bs pr (fun _ _ => False) 175 [some (.ref a), none] [] h := by
  have hi : i < cs.length := hl ▸ (List.getElem?_eq_some_iff.mp ha).1
  refine s_Model_init_175 (fs_a0 := fs) (by omega) hf (K.atL i ha (List.getElem?_set_self hi)) (by omega) (fun q178 hq178 q186 hq186 => ?_)
  have K' := ((((K.newR (e := iz 13) hq178 rfl rfl).upL (by simp [hl]) i (e := .inr (11, (fs.set 42 (.ref q178)))) ha).newR (e := iz 60) hq186 rfl rfl).upL (by simp [hl]) i (e := .inr (11, ((fs.set 42 (.ref q178)).set 43 (.ref q186)))) ha)
  simp only [List.set_set, List.append_assoc, List.cons_append, List.nil_append] at K'
  try simp only [Nat.sub_sub]
  exact k q178 q186 _ K'

theorem mo_191 {pr : Option Value → xw_A → Prop} {bc bs : Nat} {B : List Nat} {D : List xw_C} {fs : List Value} (hF : 1 ≤ F) (hL : 12 ≤ L) (hu : 2 ≤ bc ∧ 73 ≤ bs) (hl : as.length = cs.length) (ha : as[i]? = some a) (hf : fs.length = 62) (K : SL (as ++ B) (cs.set i (.inr (11, fs)) ++ D) h)
    (k : ∀ (q194 q202 : Nat) (h' : xw_A), SL (as ++ (B ++ [q194, q202])) (cs.set i (.inr (11, ((fs.set 44 (.ref q194)).set 45 (.ref q202)))) ++ (D ++ [iz 60, iz 13])) h' → xw G m_Model_init F L (bc - 2) (bs - 73) pr (fun _ _ => False) 207 [some (.ref a), none] [] h') :
    xw G m_Model_init F L bc bs pr (fun _ _ => False) 191 [some (.ref a), none] [] h := by
  have hi : i < cs.length := hl ▸ (List.getElem?_eq_some_iff.mp ha).1
  refine s_Model_init_191 (fs_a0 := fs) (by omega) hf (K.atL i ha (List.getElem?_set_self hi)) (by omega) (fun q194 hq194 q202 hq202 => ?_)
  have K' := ((((K.newR (e := iz 60) hq194 rfl rfl).upL (by simp [hl]) i (e := .inr (11, (fs.set 44 (.ref q194)))) ha).newR (e := iz 13) hq202 rfl rfl).upL (by simp [hl]) i (e := .inr (11, ((fs.set 44 (.ref q194)).set 45 (.ref q202)))) ha)
  simp only [List.set_set, List.append_assoc, List.cons_append, List.nil_append] at K'
  try simp only [Nat.sub_sub]
  exact k q194 q202 _ K'

theorem mo_207 {pr : Option Value → xw_A → Prop} {bc bs : Nat} {B : List Nat} {D : List xw_C} {fs : List Value} (hF : 1 ≤ F) (hL : 12 ≤ L) (hu : 2 ≤ bc ∧ 26 ≤ bs) (hl : as.length = cs.length) (ha : as[i]? = some a) (hf : fs.length = 62) (K : SL (as ++ B) (cs.set i (.inr (11, fs)) ++ D) h)
    (k : ∀ (q210 q218 : Nat) (h' : xw_A), SL (as ++ (B ++ [q210, q218])) (cs.set i (.inr (11, ((fs.set 46 (.ref q210)).set 47 (.ref q218)))) ++ (D ++ [iz 13, iz 13])) h' → xw G m_Model_init F L (bc - 2) (bs - 26) pr (fun _ _ => False) 223 [some (.ref a), none] [] h') :
    xw G m_Model_init F L bc bs pr (fun _ _ => False) 207 [some (.ref a), none] [] h := by
  have hi : i < cs.length := hl ▸ (List.getElem?_eq_some_iff.mp ha).1
  refine s_Model_init_207 (fs_a0 := fs) (by omega) hf (K.atL i ha (List.getElem?_set_self hi)) (by omega) (fun q210 hq210 q218 hq218 => ?_)
  have K' := ((((K.newR (e := iz 13) hq210 rfl rfl).upL (by simp [hl]) i (e := .inr (11, (fs.set 46 (.ref q210)))) ha).newR (e := iz 13) hq218 rfl rfl).upL (by simp [hl]) i (e := .inr (11, ((fs.set 46 (.ref q210)).set 47 (.ref q218)))) ha)
  simp only [List.set_set, List.append_assoc, List.cons_append, List.nil_append] at K'
  try simp only [Nat.sub_sub]
  exact k q210 q218 _ K'

theorem mo_223 {pr : Option Value → xw_A → Prop} {bc bs : Nat} {B : List Nat} {D : List xw_C} {fs : List Value} (hF : 1 ≤ F) (hL : 12 ≤ L) (hu : 2 ≤ bc ∧ 26 ≤ bs) (hl : as.length = cs.length) (ha : as[i]? = some a) (hf : fs.length = 62) (K : SL (as ++ B) (cs.set i (.inr (11, fs)) ++ D) h)
    (k : ∀ (q226 q234 : Nat) (h' : xw_A), SL (as ++ (B ++ [q226, q234])) (cs.set i (.inr (11, ((fs.set 48 (.ref q226)).set 49 (.ref q234)))) ++ (D ++ [iz 13, iz 13])) h' → xw G m_Model_init F L (bc - 2) (bs - 26) pr (fun _ _ => False) 239 [some (.ref a), none] [] h') :
    xw G m_Model_init F L bc bs pr (fun _ _ => False) 223 [some (.ref a), none] [] h := by
  have hi : i < cs.length := hl ▸ (List.getElem?_eq_some_iff.mp ha).1
  refine s_Model_init_223 (fs_a0 := fs) (by omega) hf (K.atL i ha (List.getElem?_set_self hi)) (by omega) (fun q226 hq226 q234 hq234 => ?_)
  have K' := ((((K.newR (e := iz 13) hq226 rfl rfl).upL (by simp [hl]) i (e := .inr (11, (fs.set 48 (.ref q226)))) ha).newR (e := iz 13) hq234 rfl rfl).upL (by simp [hl]) i (e := .inr (11, ((fs.set 48 (.ref q226)).set 49 (.ref q234)))) ha)
  simp only [List.set_set, List.append_assoc, List.cons_append, List.nil_append] at K'
  try simp only [Nat.sub_sub]
  exact k q226 q234 _ K'

theorem mo_239 {pr : Option Value → xw_A → Prop} {bc bs : Nat} {B : List Nat} {D : List xw_C} {fs : List Value} (hF : 1 ≤ F) (hL : 12 ≤ L) (hu : 2 ≤ bc ∧ 120 ≤ bs) (hl : as.length = cs.length) (ha : as[i]? = some a) (hf : fs.length = 62) (K : SL (as ++ B) (cs.set i (.inr (11, fs)) ++ D) h)
    (k : ∀ (q242 q250 : Nat) (h' : xw_A), SL (as ++ (B ++ [q242, q250])) (cs.set i (.inr (11, ((fs.set 50 (.ref q242)).set 51 (.ref q250)))) ++ (D ++ [iz 60, iz 60])) h' → xw G m_Model_init F L (bc - 2) (bs - 120) pr (fun _ _ => False) 255 [some (.ref a), none] [] h') :
    xw G m_Model_init F L bc bs pr (fun _ _ => False) 239 [some (.ref a), none] [] h := by
  have hi : i < cs.length := hl ▸ (List.getElem?_eq_some_iff.mp ha).1
  refine s_Model_init_239 (fs_a0 := fs) (by omega) hf (K.atL i ha (List.getElem?_set_self hi)) (by omega) (fun q242 hq242 q250 hq250 => ?_)
  have K' := ((((K.newR (e := iz 60) hq242 rfl rfl).upL (by simp [hl]) i (e := .inr (11, (fs.set 50 (.ref q242)))) ha).newR (e := iz 60) hq250 rfl rfl).upL (by simp [hl]) i (e := .inr (11, ((fs.set 50 (.ref q242)).set 51 (.ref q250)))) ha)
  simp only [List.set_set, List.append_assoc, List.cons_append, List.nil_append] at K'
  try simp only [Nat.sub_sub]
  exact k q242 q250 _ K'

theorem mo_255 {pr : Option Value → xw_A → Prop} {bc bs : Nat} {B : List Nat} {D : List xw_C} {fs : List Value} (hF : 1 ≤ F) (hL : 12 ≤ L) (hu : 2 ≤ bc ∧ 84 ≤ bs) (hl : as.length = cs.length) (ha : as[i]? = some a) (hf : fs.length = 62) (K : SL (as ++ B) (cs.set i (.inr (11, fs)) ++ D) h)
    (k : ∀ (q258 q266 : Nat) (h' : xw_A), SL (as ++ (B ++ [q258, q266])) (cs.set i (.inr (11, ((fs.set 52 (.ref q258)).set 53 (.ref q266)))) ++ (D ++ [iz 60, iz 24])) h' → xw G m_Model_init F L (bc - 2) (bs - 84) pr (fun _ _ => False) 271 [some (.ref a), none] [] h') :
    xw G m_Model_init F L bc bs pr (fun _ _ => False) 255 [some (.ref a), none] [] h := by
  have hi : i < cs.length := hl ▸ (List.getElem?_eq_some_iff.mp ha).1
  refine s_Model_init_255 (fs_a0 := fs) (by omega) hf (K.atL i ha (List.getElem?_set_self hi)) (by omega) (fun q258 hq258 q266 hq266 => ?_)
  have K' := ((((K.newR (e := iz 60) hq258 rfl rfl).upL (by simp [hl]) i (e := .inr (11, (fs.set 52 (.ref q258)))) ha).newR (e := iz 24) hq266 rfl rfl).upL (by simp [hl]) i (e := .inr (11, ((fs.set 52 (.ref q258)).set 53 (.ref q266)))) ha)
  simp only [List.set_set, List.append_assoc, List.cons_append, List.nil_append] at K'
  try simp only [Nat.sub_sub]
  exact k q258 q266 _ K'

theorem mo_271 {pr : Option Value → xw_A → Prop} {bc bs : Nat} {B : List Nat} {D : List xw_C} {fs : List Value} (hF : 1 ≤ F) (hL : 12 ≤ L) (hu : 2 ≤ bc ∧ 84 ≤ bs) (hl : as.length = cs.length) (ha : as[i]? = some a) (hf : fs.length = 62) (K : SL (as ++ B) (cs.set i (.inr (11, fs)) ++ D) h)
    (k : ∀ (q274 q282 : Nat) (h' : xw_A), SL (as ++ (B ++ [q274, q282])) (cs.set i (.inr (11, ((fs.set 54 (.ref q274)).set 57 (.ref q282)))) ++ (D ++ [iz 24, bz 60])) h' → xw G m_Model_init F L (bc - 2) (bs - 84) pr (fun _ _ => False) 287 [some (.ref a), none] [] h') :
    xw G m_Model_init F L bc bs pr (fun _ _ => False) 271 [some (.ref a), none] [] h := by
  have hi : i < cs.length := hl ▸ (List.getElem?_eq_some_iff.mp ha).1
  refine s_Model_init_271 (fs_a0 := fs) (by omega) hf (K.atL i ha (List.getElem?_set_self hi)) (by omega) (fun q274 hq274 q282 hq282 => ?_)
  have K' := ((((K.newR (e := iz 24) hq274 rfl rfl).upL (by simp [hl]) i (e := .inr (11, (fs.set 54 (.ref q274)))) ha).newR (e := bz 60) hq282 rfl rfl).upL (by simp [hl]) i (e := .inr (11, ((fs.set 54 (.ref q274)).set 57 (.ref q282)))) ha)
  simp only [List.set_set, List.append_assoc, List.cons_append, List.nil_append] at K'
  try simp only [Nat.sub_sub]
  exact k q274 q282 _ K'

theorem mo_287 {pr : Option Value → xw_A → Prop} {bc bs : Nat} {B : List Nat} {D : List xw_C} {fs : List Value} (hF : 1 ≤ F) (hL : 12 ≤ L) (hu : 2 ≤ bc ∧ 48 ≤ bs) (hl : as.length = cs.length) (ha : as[i]? = some a) (hf : fs.length = 62) (K : SL (as ++ B) (cs.set i (.inr (11, fs)) ++ D) h)
    (k : ∀ (q290 q298 : Nat) (h' : xw_A), SL (as ++ (B ++ [q290, q298])) (cs.set i (.inr (11, ((fs.set 58 (.ref q290)).set 59 (.ref q298)))) ++ (D ++ [iz 24, iz 24])) h' → xw G m_Model_init F L (bc - 2) (bs - 48) pr (fun _ _ => False) 303 [some (.ref a), none] [] h') :
    xw G m_Model_init F L bc bs pr (fun _ _ => False) 287 [some (.ref a), none] [] h := by
  have hi : i < cs.length := hl ▸ (List.getElem?_eq_some_iff.mp ha).1
  refine s_Model_init_287 (fs_a0 := fs) (by omega) hf (K.atL i ha (List.getElem?_set_self hi)) (by omega) (fun q290 hq290 q298 hq298 => ?_)
  have K' := ((((K.newR (e := iz 24) hq290 rfl rfl).upL (by simp [hl]) i (e := .inr (11, (fs.set 58 (.ref q290)))) ha).newR (e := iz 24) hq298 rfl rfl).upL (by simp [hl]) i (e := .inr (11, ((fs.set 58 (.ref q290)).set 59 (.ref q298)))) ha)
  simp only [List.set_set, List.append_assoc, List.cons_append, List.nil_append] at K'
  try simp only [Nat.sub_sub]
  exact k q290 q298 _ K'

theorem mo_303 {pr : Option Value → xw_A → Prop} {bc bs w : Nat} {B : List Nat} {D : List xw_C} {fs : List Value} (hu : 1 ≤ bc ∧ 24 ≤ bs) (hl : as.length = cs.length) (hb : B.length = D.length) (ha : as[i]? = some a) (hf : fs.length = 62) (hw : fs[(9 : Nat)]? = some (.ref w)) (hB : B[6]? = some w) (hD : D[6]? = some (iz 2)) (K : SL (as ++ B) (cs.set i (.inr (11, fs)) ++ D) h)
    (k : ∀ (q306 : Nat) (h' : xw_A), SL (as ++ (B ++ [q306])) (cs.set i (.inr (11, (fs.set 60 (.ref q306)))) ++ (D.set 6 (.inl (0, 2, .inl (upd (upd (fun _ => 0) 0 1) 1 1))) ++ [dz 24])) h' → xw G m_Model_init F L (bc - 1) (bs - 24) pr (fun _ _ => False) 325 [some (.ref a), none] [] h') :
    xw G m_Model_init F L bc bs pr (fun _ _ => False) 303 [some (.ref a), none] [] h := by
  have hi : i < cs.length := hl ▸ (List.getElem?_eq_some_iff.mp ha).1
  have hlS : ∀ e : xw_C, as.length = (cs.set i e).length := fun e => by simp [hl]
  have h6 : 6 < B.length := (List.getElem?_eq_some_iff.mp hB).1
  refine s_Model_init_303 (fs_a0 := fs) (weights_a0 := w) (by omega) hf (K.atL i ha (List.getElem?_set_self hi)) hw (K.atR (hlS _) 6 hB hD) (show vp_in (nI 0) 2 from vp_in_nI (by omega) (by omega)) (show vp_in (nI 1) 2 from vp_in_nI (by omega) (by omega)) (fun q306 hq306 => ?_)
  have hB' : (B ++ [q306])[6]? = some w := by rw [List.getElem?_append_left h6]; exact hB
  have K' := (((K.newR (e := dz 24) hq306 rfl rfl).upL (hlS _) i (e := .inr (11, (fs.set 60 (.ref q306)))) ha).upR (by simp [hl]) 6 (e := .inl (0, 2, .inl (upd (fun _ => 0) 0 1))) hB' rfl).upR (by simp [hl]) 6 (e := .inl (0, 2, .inl (upd (upd (fun _ => 0) 0 1) 1 1))) hB' rfl
  have e9 : (D ++ [dz 24]).set 6 (.inl (0, 2, .inl (upd (upd (fun _ => 0) 0 1) 1 1))) = D.set 6 (.inl (0, 2, .inl (upd (upd (fun _ => 0) 0 1) 1 1))) ++ [dz 24] := List.set_append_left _ _ (by omega)
  simp only [List.set_set] at K'
  rw [e9] at K'
  exact k q306 _ K'

set_option maxHeartbeats 2000000 in
theorem mo_loop {pr : Option Value → xw_A → Prop} {m0 m1 m2 m3 m4 m5 m6 m7 m8 m9 m10 m11 m12 m13 m14 m15 m16 m17 m18 m19 m20 m21 m22 m23 m24 m25 m26 m27 m28 m29 m30 m31 m32 m33 m34 : Nat} {wf : Nat → Int32} {fs : List Value} (hf0 : fs.length = 62) (hg : fs[(14 : Nat)]? = some (.ref m9)) (hl : as.length = cs.length) (ha : as[i]? = some a) (hc : cs[i]? = some (.inr (11, fs)))
    (hk : ∀ (lf : Nat → Int32) (h' : xw_A), (∀ j, j < 24 → lf j = -1) → SL (as ++ [m0, m1, m2, m3, m4, m5, m6, m7, m8, m9, m10, m11, m12, m13, m14, m15, m16, m17, m18, m19, m20, m21, m22, m23, m24, m25, m26, m27, m28, m29, m30, m31, m32, m33, m34]) (cs ++ mcs lf wf) h' → pr none h') :
    ∀ (r k : Nat) (lf : Nat → Int32) (bc bs : Nat) (h : xw_A), k + r = 24 → (∀ j, j < k → lf j = -1) → SL (as ++ [m0, m1, m2, m3, m4, m5, m6, m7, m8, m9, m10, m11, m12, m13, m14, m15, m16, m17, m18, m19, m20, m21, m22, m23, m24, m25, m26, m27, m28, m29, m30, m31, m32, m33, m34]) (cs ++ mcs lf wf) h →
      xw G m_Model_init F L bc bs pr (fun _ _ => False) 327 [some (.ref a), some (.int (nI k))] [] h
  | 0, k, lf, bc, bs, h, hn, hf, K => by
    refine s_Model_init_327 (fun _ => s_Model_init_346 (hk lf h (fun j hj => hf j (by omega)) K)) (fun hc9 => absurd (nI_le (a := 24) (b := k) (by omega) (by omega)) hc9)
  | r + 1, k, lf, bc, bs, h, hn, hf, K => by
    refine s_Model_init_327 (fun hc9 => absurd hc9 (nI_ge (a := k) (b := 24) (by omega) (by omega))) (fun _ => ?_)
    refine s_Model_init_333 (fs_a0 := fs) (live_a0 := m9) hf0 (K.atL i ha hc) hg (K.atR hl 9 rfl rfl) (vp_in_nI (by omega) (by omega)) ?_
    rw [nI_clamp (by omega), nI_1]
    refine mo_loop hf0 hg hl ha hc hk r (k + 1) (upd lf k (-1)) bc bs _ (by omega) (fun j hj => ?_) (K.upR hl 9 rfl rfl)
    show (if j = k then (-1 : Int32) else lf j) = -1
    split
    · rfl
    · exact hf j (by omega)
set_option maxHeartbeats 1000000 in
theorem mo_all {pr : Option Value → xw_A → Prop} {bc bs : Nat} {fs : List Value} (hF : 1 ≤ F) (hL : 12 ≤ L) (hu : 35 ≤ bc ∧ 9915 ≤ bs) (hl : as.length = cs.length) (ha : as[i]? = some a) (hf : fs.length = 62) (K : SL (as ++ []) (cs.set i (.inr (11, fs)) ++ []) h)
    (k : ∀ (m0 m1 m2 m3 m4 m5 m6 m7 m8 m9 m10 m11 m12 m13 m14 m15 m16 m17 m18 m19 m20 m21 m22 m23 m24 m25 m26 m27 m28 m29 m30 m31 m32 m33 m34 : Nat) (lf : Nat → Int32) (h' : xw_A), (∀ j, j < 24 → lf j = -1) → SL (as ++ [m0, m1, m2, m3, m4, m5, m6, m7, m8, m9, m10, m11, m12, m13, m14, m15, m16, m17, m18, m19, m20, m21, m22, m23, m24, m25, m26, m27, m28, m29, m30, m31, m32, m33, m34]) (cs.set i (.inr (11, mset fs m0 m1 m2 m3 m4 m5 m6 m7 m8 m9 m10 m11 m12 m13 m14 m15 m16 m17 m18 m19 m20 m21 m22 m23 m24 m25 m26 m27 m28 m29 m30 m31 m32 m33 m34)) ++ mcs lf (upd (upd (fun _ => 0) 0 1) 1 1)) h' → pr none h') :
    xw G m_Model_init F L bc bs pr (fun _ _ => False) 0 [some (.ref a), none] [] h := by
  have hi : i < cs.length := hl ▸ (List.getElem?_eq_some_iff.mp ha).1
  refine mo_0 hF hL (by omega) hl ha hf K (fun m0 h1 K1 => ?_)
  refine mo_23 hF hL (by omega) hl ha (by simp only [List.length_set]; exact hf) K1 (fun m1 m2 h2 K2 => ?_)
  refine mo_39 hF hL (by omega) hl ha (by simp only [List.length_set]; exact hf) K2 (fun m3 m4 h3 K3 => ?_)
  refine mo_55 hF hL (by omega) hl ha (by simp only [List.length_set]; exact hf) K3 (fun m5 m6 h4 K4 => ?_)
  refine mo_70 hF hL (by omega) hl ha (by simp only [List.length_set]; exact hf) K4 (fun m7 m8 h5 K5 => ?_)
  refine mo_88 hF hL (by omega) hl ha (by simp only [List.length_set]; exact hf) K5 (fun m9 m10 h6 K6 => ?_)
  refine mo_105 hF hL (by omega) hl ha (by simp only [List.length_set]; exact hf) K6 (fun m11 m12 h7 K7 => ?_)
  refine mo_123 hF hL (by omega) hl ha (by simp only [List.length_set]; exact hf) K7 (fun m13 m14 h8 K8 => ?_)
  refine mo_140 hF hL (by omega) hl ha (by simp only [List.length_set]; exact hf) K8 (fun m15 m16 h9 K9 => ?_)
  refine mo_157 hF hL (by omega) hl ha (by simp only [List.length_set]; exact hf) K9 (fun m17 h10 K10 => ?_)
  refine mo_175 hF hL (by omega) hl ha (by simp only [List.length_set]; exact hf) K10 (fun m18 m19 h11 K11 => ?_)
  refine mo_191 hF hL (by omega) hl ha (by simp only [List.length_set]; exact hf) K11 (fun m20 m21 h12 K12 => ?_)
  refine mo_207 hF hL (by omega) hl ha (by simp only [List.length_set]; exact hf) K12 (fun m22 m23 h13 K13 => ?_)
  refine mo_223 hF hL (by omega) hl ha (by simp only [List.length_set]; exact hf) K13 (fun m24 m25 h14 K14 => ?_)
  refine mo_239 hF hL (by omega) hl ha (by simp only [List.length_set]; exact hf) K14 (fun m26 m27 h15 K15 => ?_)
  refine mo_255 hF hL (by omega) hl ha (by simp only [List.length_set]; exact hf) K15 (fun m28 m29 h16 K16 => ?_)
  refine mo_271 hF hL (by omega) hl ha (by simp only [List.length_set]; exact hf) K16 (fun m30 m31 h17 K17 => ?_)
  refine mo_287 hF hL (by omega) hl ha (by simp only [List.length_set]; exact hf) K17 (fun m32 m33 h18 K18 => ?_)
  have Kf : SL (as ++ [m0, m1, m2, m3, m4, m5, m6, m7, m8, m9, m10, m11, m12, m13, m14, m15, m16, m17, m18, m19, m20, m21, m22, m23, m24, m25, m26, m27, m28, m29, m30, m31, m32, m33]) (cs.set i (.inr (11, ((((((((((((((((((((((((((((((((((((((fs.set 1 (.int 3)).set 2 (.int 20)).set 3 (.ref m0)).set 4 (.ref m1)).set 5 (.ref m2)).set 6 (.ref m3)).set 7 (.ref m4)).set 8 (.ref m5)).set 9 (.ref m6)).set 12 (.ref m7)).set 13 (.ref m8)).set 14 (.ref m9)).set 17 (.ref m10)).set 18 (.ref m11)).set 21 (.ref m12)).set 22 (.ref m13)).set 23 (.ref m14)).set 24 (.ref m15)).set 25 (.ref m16)).set 32 (.int (-1))).set 33 (.int (-1))).set 41 (.ref m17)).set 42 (.ref m18)).set 43 (.ref m19)).set 44 (.ref m20)).set 45 (.ref m21)).set 46 (.ref m22)).set 47 (.ref m23)).set 48 (.ref m24)).set 49 (.ref m25)).set 50 (.ref m26)).set 51 (.ref m27)).set 52 (.ref m28)).set 53 (.ref m29)).set 54 (.ref m30)).set 57 (.ref m31)).set 58 (.ref m32)).set 59 (.ref m33)))) ++ [iz 96, iz 96, iz 96, iz 2, iz 2304, iz 48, iz 2, iz 600, iz 600, iz 24, iz 600, iz 1300, iz 2304, iz 48, iz 600, iz 24, iz 600, iz 13, iz 13, iz 60, iz 60, iz 13, iz 13, iz 13, iz 13, iz 13, iz 60, iz 60, iz 60, iz 24, iz 24, bz 60, iz 24, iz 24]) h18 := SL.cast (by simp only [List.nil_append, List.cons_append]) (by simp only [List.nil_append, List.cons_append]) K18
  have hw : ((((((((((((((((((((((((((((((((((((((fs.set 1 (.int 3)).set 2 (.int 20)).set 3 (.ref m0)).set 4 (.ref m1)).set 5 (.ref m2)).set 6 (.ref m3)).set 7 (.ref m4)).set 8 (.ref m5)).set 9 (.ref m6)).set 12 (.ref m7)).set 13 (.ref m8)).set 14 (.ref m9)).set 17 (.ref m10)).set 18 (.ref m11)).set 21 (.ref m12)).set 22 (.ref m13)).set 23 (.ref m14)).set 24 (.ref m15)).set 25 (.ref m16)).set 32 (.int (-1))).set 33 (.int (-1))).set 41 (.ref m17)).set 42 (.ref m18)).set 43 (.ref m19)).set 44 (.ref m20)).set 45 (.ref m21)).set 46 (.ref m22)).set 47 (.ref m23)).set 48 (.ref m24)).set 49 (.ref m25)).set 50 (.ref m26)).set 51 (.ref m27)).set 52 (.ref m28)).set 53 (.ref m29)).set 54 (.ref m30)).set 57 (.ref m31)).set 58 (.ref m32)).set 59 (.ref m33))[9]? = some (.ref m6) := by simp [hf]
  refine mo_303 (w := m6) (B := [m0, m1, m2, m3, m4, m5, m6, m7, m8, m9, m10, m11, m12, m13, m14, m15, m16, m17, m18, m19, m20, m21, m22, m23, m24, m25, m26, m27, m28, m29, m30, m31, m32, m33]) (D := [iz 96, iz 96, iz 96, iz 2, iz 2304, iz 48, iz 2, iz 600, iz 600, iz 24, iz 600, iz 1300, iz 2304, iz 48, iz 600, iz 24, iz 600, iz 13, iz 13, iz 60, iz 60, iz 13, iz 13, iz 13, iz 13, iz 13, iz 60, iz 60, iz 60, iz 24, iz 24, bz 60, iz 24, iz 24]) (by omega) hl (by simp only [List.length_cons, List.length_nil]) ha (by simp only [List.length_set]; exact hf) hw (by simp only [List.getElem?_cons_succ, List.getElem?_cons_zero]) (by simp only [List.getElem?_cons_succ, List.getElem?_cons_zero]) Kf (fun m34 h99 K99 => ?_)
  refine s_Model_init_325 ?_
  have Kg : SL (as ++ [m0, m1, m2, m3, m4, m5, m6, m7, m8, m9, m10, m11, m12, m13, m14, m15, m16, m17, m18, m19, m20, m21, m22, m23, m24, m25, m26, m27, m28, m29, m30, m31, m32, m33, m34]) (cs.set i (.inr (11, mset fs m0 m1 m2 m3 m4 m5 m6 m7 m8 m9 m10 m11 m12 m13 m14 m15 m16 m17 m18 m19 m20 m21 m22 m23 m24 m25 m26 m27 m28 m29 m30 m31 m32 m33 m34)) ++ mcs (fun _ => 0) (upd (upd (fun _ => 0) 0 1) 1 1)) h99 := SL.cast (by simp only [List.nil_append, List.cons_append]) (by simp only [mset, mcs, List.nil_append, List.cons_append, List.set_cons_succ, List.set_cons_zero]) K99
  have hg : (mset fs m0 m1 m2 m3 m4 m5 m6 m7 m8 m9 m10 m11 m12 m13 m14 m15 m16 m17 m18 m19 m20 m21 m22 m23 m24 m25 m26 m27 m28 m29 m30 m31 m32 m33 m34)[14]? = some (.ref m9) := by simp [mset, hf]
  exact mo_loop (fs := mset fs m0 m1 m2 m3 m4 m5 m6 m7 m8 m9 m10 m11 m12 m13 m14 m15 m16 m17 m18 m19 m20 m21 m22 m23 m24 m25 m26 m27 m28 m29 m30 m31 m32 m33 m34) (by simp only [mset, List.length_set]; exact hf) hg (by simp [hl]) ha (List.getElem?_set_self hi) (fun lf h' hlf K' => k m0 m1 m2 m3 m4 m5 m6 m7 m8 m9 m10 m11 m12 m13 m14 m15 m16 m17 m18 m19 m20 m21 m22 m23 m24 m25 m26 m27 m28 m29 m30 m31 m32 m33 m34 lf h' hlf K') 24 0 (fun _ => 0) _ _ _ rfl (fun j hj => absurd hj (Nat.not_lt_zero j)) Kg
set_option maxHeartbeats 1000000 in
theorem mset_eq (m0 m1 m2 m3 m4 m5 m6 m7 m8 m9 m10 m11 m12 m13 m14 m15 m16 m17 m18 m19 m20 m21 m22 m23 m24 m25 m26 m27 m28 m29 m30 m31 m32 m33 m34 : Nat) : mset mfs0 m0 m1 m2 m3 m4 m5 m6 m7 m8 m9 m10 m11 m12 m13 m14 m15 m16 m17 m18 m19 m20 m21 m22 m23 m24 m25 m26 m27 m28 m29 m30 m31 m32 m33 m34 = mfs m0 m1 m2 m3 m4 m5 m6 m7 m8 m9 m10 m11 m12 m13 m14 m15 m16 m17 m18 m19 m20 m21 m22 m23 m24 m25 m26 m27 m28 m29 m30 m31 m32 m33 m34 := by
  simp only [mset, mfs0, mfs, List.set_cons_succ, List.set_cons_zero]
/-- PhraseShelfModel() -/
theorem c_Model_init (hF : 1 ≤ F) (hL : 12 ≤ L) (K : SL as cs h) (ha : as[i]? = some a) (hc : cs[i]? = some (.inr (11, mfs0))) :
    xw_Met G m_Model_init F L 35 9915 [.ref a] h (fun v h' => v = none ∧ ∃ (m0 m1 m2 m3 m4 m5 m6 m7 m8 m9 m10 m11 m12 m13 m14 m15 m16 m17 m18 m19 m20 m21 m22 m23 m24 m25 m26 m27 m28 m29 m30 m31 m32 m33 m34 : Nat) (lf wf : Nat → Int32), (∀ j, j < 24 → lf j = -1) ∧ wf 0 = 1 ∧ wf 1 = 1 ∧
      SL (as ++ [m0, m1, m2, m3, m4, m5, m6, m7, m8, m9, m10, m11, m12, m13, m14, m15, m16, m17, m18, m19, m20, m21, m22, m23, m24, m25, m26, m27, m28, m29, m30, m31, m32, m33, m34]) (cs.set i (.inr (11, mfs m0 m1 m2 m3 m4 m5 m6 m7 m8 m9 m10 m11 m12 m13 m14 m15 m16 m17 m18 m19 m20 m21 m22 m23 m24 m25 m26 m27 m28 m29 m30 m31 m32 m33 m34)) ++ mcs lf wf) h') (fun _ _ => False) := by
  have hi : i < cs.length := (List.getElem?_eq_some_iff.mp hc).1
  have e0 : cs.set i (.inr (11, mfs0)) = cs := by
    apply List.ext_getElem?
    intro j
    rw [List.getElem?_set]
    by_cases hj : i = j
    · subst hj; rw [hc]; simp [hi]
    · simp [hj]
  refine xw_Met.of rfl (by decide) (Nat.le_of_ble_eq_true rfl) ?_
  refine mo_all (as := as) (cs := cs) (i := i) (fs := mfs0) hF hL ⟨Nat.le_refl _, Nat.le_refl _⟩ K.1 ha rfl (SL.cast (by simp) (by rw [e0]; simp) K) (fun m0 m1 m2 m3 m4 m5 m6 m7 m8 m9 m10 m11 m12 m13 m14 m15 m16 m17 m18 m19 m20 m21 m22 m23 m24 m25 m26 m27 m28 m29 m30 m31 m32 m33 m34 lf h' hlf K' => ?_)
  rw [mset_eq] at K'
  exact ⟨rfl, m0, m1, m2, m3, m4, m5, m6, m7, m8, m9, m10, m11, m12, m13, m14, m15, m16, m17, m18, m19, m20, m21, m22, m23, m24, m25, m26, m27, m28, m29, m30, m31, m32, m33, m34, lf, _, hlf, by rfl, by rfl, K'⟩
end CtorM
