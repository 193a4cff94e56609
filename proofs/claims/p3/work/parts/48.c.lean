/-! the class between two calls, the law's helpers, its loop: by program (wip/tools/gen8.py) -/
theorem pick_sub {l is : List Nat} : ∀ a ∈ pick l is, a ∈ l := fun a ha => by
  obtain ⟨i, -, h1⟩ := List.mem_filterMap.mp ha
  exact List.mem_of_getElem? h1
set_option maxHeartbeats 1000000 in
theorem RI.fr {m draft_ asked_ prepared_ preparedSize_ texts_ sizes_ weights_ entries_ lies_ live_ row_ level_ oldTexts_ oldSizes_ oldLies_ oldLive_ oldRow_ firstToken_ starred_ tokenAt_ tokenSize_ groupKind_ groupPhrase_ groupSize_ groupMask_ groupFar_ out_ top_ masks_ begins_ lasts_ truth_ answers_ order_ scores_ T : Nat} {B : List Nat} {h h' : xw_A} (R : RI m draft_ asked_ prepared_ preparedSize_ texts_ sizes_ weights_ entries_ lies_ live_ row_ level_ oldTexts_ oldSizes_ oldLies_ oldLive_ oldRow_ firstToken_ starred_ tokenAt_ tokenSize_ groupKind_ groupPhrase_ groupSize_ groupMask_ groupFar_ out_ top_ masks_ begins_ lasts_ truth_ answers_ order_ scores_ T h) (r : FrO B h h') (hB : ∀ a ∈ [m, draft_, asked_, prepared_, preparedSize_, texts_, sizes_, weights_, entries_, lies_, live_, row_, level_, oldTexts_, oldSizes_, oldLies_, oldLive_, oldRow_, firstToken_, starred_, tokenAt_, tokenSize_, groupKind_, groupPhrase_, groupSize_, groupMask_, groupFar_, out_, top_, masks_, begins_, lasts_, truth_, answers_, order_, scores_], a ∉ B) : RI m draft_ asked_ prepared_ preparedSize_ texts_ sizes_ weights_ entries_ lies_ live_ row_ level_ oldTexts_ oldSizes_ oldLies_ oldLive_ oldRow_ firstToken_ starred_ tokenAt_ tokenSize_ groupKind_ groupPhrase_ groupSize_ groupMask_ groupFar_ out_ top_ masks_ begins_ lasts_ truth_ answers_ order_ scores_ T h' := by
  obtain ⟨fs, l, e, ⟨er, g_err⟩, KDr, KPr, KTx, KOt, KSt, KMo, KWe, KBe, KAn, KQu⟩ := R
  exact ⟨fs, l, r _ _ (hB m List.mem_cons_self) e, ⟨er, g_err⟩, KDr.fr (E := []) (fun _ _ => rfl) r (fun _ _ q => nomatch q) (fun a ha => hB a (pick_sub (l := [m, draft_, asked_, prepared_, preparedSize_, texts_, sizes_, weights_, entries_, lies_, live_, row_, level_, oldTexts_, oldSizes_, oldLies_, oldLive_, oldRow_, firstToken_, starred_, tokenAt_, tokenSize_, groupKind_, groupPhrase_, groupSize_, groupMask_, groupFar_, out_, top_, masks_, begins_, lasts_, truth_, answers_, order_, scores_]) (is := [1]) a ha)), KPr.fr (E := []) (fun _ _ => rfl) r (fun _ _ q => nomatch q) (fun a ha => hB a (pick_sub (l := [m, draft_, asked_, prepared_, preparedSize_, texts_, sizes_, weights_, entries_, lies_, live_, row_, level_, oldTexts_, oldSizes_, oldLies_, oldLive_, oldRow_, firstToken_, starred_, tokenAt_, tokenSize_, groupKind_, groupPhrase_, groupSize_, groupMask_, groupFar_, out_, top_, masks_, begins_, lasts_, truth_, answers_, order_, scores_]) (is := [3, 4]) a ha)), KTx.fr (E := []) (fun _ _ => rfl) r (fun _ _ q => nomatch q) (fun a ha => hB a (pick_sub (l := [m, draft_, asked_, prepared_, preparedSize_, texts_, sizes_, weights_, entries_, lies_, live_, row_, level_, oldTexts_, oldSizes_, oldLies_, oldLive_, oldRow_, firstToken_, starred_, tokenAt_, tokenSize_, groupKind_, groupPhrase_, groupSize_, groupMask_, groupFar_, out_, top_, masks_, begins_, lasts_, truth_, answers_, order_, scores_]) (is := [5, 6]) a ha)), KOt.fr (E := []) (fun _ _ => rfl) r (fun _ _ q => nomatch q) (fun a ha => hB a (pick_sub (l := [m, draft_, asked_, prepared_, preparedSize_, texts_, sizes_, weights_, entries_, lies_, live_, row_, level_, oldTexts_, oldSizes_, oldLies_, oldLive_, oldRow_, firstToken_, starred_, tokenAt_, tokenSize_, groupKind_, groupPhrase_, groupSize_, groupMask_, groupFar_, out_, top_, masks_, begins_, lasts_, truth_, answers_, order_, scores_]) (is := [13, 14]) a ha)), KSt.fr (E := []) (fun _ _ => rfl) r (fun _ _ q => nomatch q) (fun a ha => hB a (pick_sub (l := [m, draft_, asked_, prepared_, preparedSize_, texts_, sizes_, weights_, entries_, lies_, live_, row_, level_, oldTexts_, oldSizes_, oldLies_, oldLive_, oldRow_, firstToken_, starred_, tokenAt_, tokenSize_, groupKind_, groupPhrase_, groupSize_, groupMask_, groupFar_, out_, top_, masks_, begins_, lasts_, truth_, answers_, order_, scores_]) (is := [8, 9, 10, 11, 12, 15, 16, 17]) a ha)), KMo.fr (E := []) (fun _ _ => rfl) r (fun _ _ q => nomatch q) (fun _ q => nomatch q), KWe.fr (E := []) (fun _ _ => rfl) r (fun _ _ q => nomatch q) (fun a ha => hB a (pick_sub (l := [m, draft_, asked_, prepared_, preparedSize_, texts_, sizes_, weights_, entries_, lies_, live_, row_, level_, oldTexts_, oldSizes_, oldLies_, oldLive_, oldRow_, firstToken_, starred_, tokenAt_, tokenSize_, groupKind_, groupPhrase_, groupSize_, groupMask_, groupFar_, out_, top_, masks_, begins_, lasts_, truth_, answers_, order_, scores_]) (is := [7]) a ha)), KBe.fr (E := []) (fun _ _ => rfl) r (fun _ _ q => nomatch q) (fun a ha => hB a (pick_sub (l := [m, draft_, asked_, prepared_, preparedSize_, texts_, sizes_, weights_, entries_, lies_, live_, row_, level_, oldTexts_, oldSizes_, oldLies_, oldLive_, oldRow_, firstToken_, starred_, tokenAt_, tokenSize_, groupKind_, groupPhrase_, groupSize_, groupMask_, groupFar_, out_, top_, masks_, begins_, lasts_, truth_, answers_, order_, scores_]) (is := [30, 31]) a ha)), KAn.fr (E := []) (fun _ _ => rfl) r (fun _ _ q => nomatch q) (fun a ha => hB a (pick_sub (l := [m, draft_, asked_, prepared_, preparedSize_, texts_, sizes_, weights_, entries_, lies_, live_, row_, level_, oldTexts_, oldSizes_, oldLies_, oldLive_, oldRow_, firstToken_, starred_, tokenAt_, tokenSize_, groupKind_, groupPhrase_, groupSize_, groupMask_, groupFar_, out_, top_, masks_, begins_, lasts_, truth_, answers_, order_, scores_]) (is := [33, 34, 35]) a ha)), KQu.fr (E := []) (fun _ _ => rfl) r (fun _ _ q => nomatch q) (fun a ha => hB a (pick_sub (l := [m, draft_, asked_, prepared_, preparedSize_, texts_, sizes_, weights_, entries_, lies_, live_, row_, level_, oldTexts_, oldSizes_, oldLies_, oldLive_, oldRow_, firstToken_, starred_, tokenAt_, tokenSize_, groupKind_, groupPhrase_, groupSize_, groupMask_, groupFar_, out_, top_, masks_, begins_, lasts_, truth_, answers_, order_, scores_]) (is := [2, 18, 19, 20, 21, 22, 23, 24, 25, 26, 27, 28, 29, 32]) a ha))⟩
theorem RI.succ {m draft_ asked_ prepared_ preparedSize_ texts_ sizes_ weights_ entries_ lies_ live_ row_ level_ oldTexts_ oldSizes_ oldLies_ oldLive_ oldRow_ firstToken_ starred_ tokenAt_ tokenSize_ groupKind_ groupPhrase_ groupSize_ groupMask_ groupFar_ out_ top_ masks_ begins_ lasts_ truth_ answers_ order_ scores_ T : Nat} {h : xw_A} (R : RI m draft_ asked_ prepared_ preparedSize_ texts_ sizes_ weights_ entries_ lies_ live_ row_ level_ oldTexts_ oldSizes_ oldLies_ oldLive_ oldRow_ firstToken_ starred_ tokenAt_ tokenSize_ groupKind_ groupPhrase_ groupSize_ groupMask_ groupFar_ out_ top_ masks_ begins_ lasts_ truth_ answers_ order_ scores_ T h) : RI m draft_ asked_ prepared_ preparedSize_ texts_ sizes_ weights_ entries_ lies_ live_ row_ level_ oldTexts_ oldSizes_ oldLies_ oldLive_ oldRow_ firstToken_ starred_ tokenAt_ tokenSize_ groupKind_ groupPhrase_ groupSize_ groupMask_ groupFar_ out_ top_ masks_ begins_ lasts_ truth_ answers_ order_ scores_ (T + 1) h := by
  obtain ⟨fs, l, e, ⟨er, g_err⟩, KDr, KPr, KTx, KOt, KSt, KMo, KWe, KBe, KAn, KQu⟩ := R
  exact ⟨fs, l, e, ⟨er, g_err⟩, KDr, KPr, KTx, KOt, KSt.succ, KMo, KWe, KBe, KAn, KQu⟩
set_option maxHeartbeats 1000000 in
theorem RI.ex {m draft_ asked_ prepared_ preparedSize_ texts_ sizes_ weights_ entries_ lies_ live_ row_ level_ oldTexts_ oldSizes_ oldLies_ oldLive_ oldRow_ firstToken_ starred_ tokenAt_ tokenSize_ groupKind_ groupPhrase_ groupSize_ groupMask_ groupFar_ out_ top_ masks_ begins_ lasts_ truth_ answers_ order_ scores_ T : Nat} {h : xw_A} (R : RI m draft_ asked_ prepared_ preparedSize_ texts_ sizes_ weights_ entries_ lies_ live_ row_ level_ oldTexts_ oldSizes_ oldLies_ oldLive_ oldRow_ firstToken_ starred_ tokenAt_ tokenSize_ groupKind_ groupPhrase_ groupSize_ groupMask_ groupFar_ out_ top_ masks_ begins_ lasts_ truth_ answers_ order_ scores_ T h) : ∀ q ∈ [m, draft_, asked_, prepared_, preparedSize_, texts_, sizes_, weights_, entries_, lies_, live_, row_, level_, oldTexts_, oldSizes_, oldLies_, oldLive_, oldRow_, firstToken_, starred_, tokenAt_, tokenSize_, groupKind_, groupPhrase_, groupSize_, groupMask_, groupFar_, out_, top_, masks_, begins_, lasts_, truth_, answers_, order_, scores_], ∃ e, h q = some e := by
  obtain ⟨fs, l, e, ⟨er, g_err⟩, KDr, KPr, KTx, KOt, KSt, KMo, KWe, KBe, KAn, KQu⟩ := R
  obtain ⟨dl, fd, g_drafted, g_draft, e_draft, hdl⟩ := id KDr
  obtain ⟨fp, fq, g_prepared, e_prepared, g_preparedSize, e_preparedSize, hps⟩ := id KPr
  obtain ⟨ft, fz, g_texts, e_texts, g_sizes, e_sizes, hSZ⟩ := id KTx
  obtain ⟨fot, foz, g_oldTexts, e_oldTexts, g_oldSizes, e_oldSizes, hOZ⟩ := id KOt
  obtain ⟨vs, md, sg, op, ov, os, fe, fi, fv, fr, fL, foi, fov, fow, g_versions, g_made, g_segments, g_open, g_oldVersions, g_oldSegments, g_entries, e_entries, g_lies, e_lies, g_live, e_live, g_row, e_row, g_level, e_level, g_oldLies, e_oldLies, g_oldLive, e_oldLive, g_oldRow, e_oldRow, hvs, hsg, hop, hov, hos, hLI, hRO, hLV, hOI, hOR, hOV, hpot⟩ := id KSt
  obtain ⟨mo, li, g_most, g_limit, hmo⟩ := id KMo
  obtain ⟨fw, g_weights, e_weights, hwe⟩ := id KWe
  obtain ⟨cl, fb, fl, g_column, g_begins, e_begins, g_lasts, e_lasts⟩ := id KBe
  obtain ⟨wa, gd, fn, fa, fo, fsc, g_wrongAt, g_good, g_found, g_answers, e_answers, g_order, e_order, g_scores, e_scores, hfn, hord⟩ := id KAn
  obtain ⟨asz, y0, y1, y2, y3, y4, y5, y6, y7, y8, y9, y10, y11, c0, c1, c2, c3, c4, c5, c6, c7, c8, c9, c10, c11, c12, c13, g_askedSize, g_at, g_kind, g_from, g_to, g_bad, g_phrases, g_tokens, g_groups, g_outs, g_tops, g_mask, g_behind, g_asked, e_asked, g_firstToken, e_firstToken, g_starred, e_starred, g_tokenAt, e_tokenAt, g_tokenSize, e_tokenSize, g_groupKind, e_groupKind, g_groupPhrase, e_groupPhrase, g_groupSize, e_groupSize, g_groupMask, e_groupMask, g_groupFar, e_groupFar, g_out, e_out, g_top, e_top, g_masks, e_masks, g_truth, e_truth, hasz⟩ := id KQu
  exact exC e (exC e_draft (exC e_asked (exC e_prepared (exC e_preparedSize (exC e_texts (exC e_sizes (exC e_weights (exC e_entries (exC e_lies (exC e_live (exC e_row (exC e_level (exC e_oldTexts (exC e_oldSizes (exC e_oldLies (exC e_oldLive (exC e_oldRow (exC e_firstToken (exC e_starred (exC e_tokenAt (exC e_tokenSize (exC e_groupKind (exC e_groupPhrase (exC e_groupSize (exC e_groupMask (exC e_groupFar (exC e_out (exC e_top (exC e_masks (exC e_begins (exC e_lasts (exC e_truth (exC e_answers (exC e_order (exC e_scores (exN))))))))))))))))))))))))))))))))))))
def Rw (weights_ z0 z1 : Nat) (h : xw_A) : Prop := ∃ fw : Nat → Int32, h weights_ = some (.inl (0, 2, .inl fw)) ∧ fw 0 = nI z0 ∧ fw 1 = nI z1
theorem Rw.fr {weights_ z0 z1 : Nat} {B : List Nat} {h h' : xw_A} (K : Rw weights_ z0 z1 h) (r : FrO B h h') (n : weights_ ∉ B) : Rw weights_ z0 z1 h' := by
  obtain ⟨fw, e, a, b⟩ := K
  exact ⟨fw, r _ _ n e, a, b⟩
/-- the reference's open flag, its rows, its saved rows -/
def RM (m live_ oldLive_ zo : Nat) (zv zu : Nat → Int32) (h : xw_A) : Prop := Rf m 20 (.int (nI zo)) h ∧ h live_ = some (.inl (0, 24, .inl zv)) ∧ h oldLive_ = some (.inl (0, 24, .inl zu))
theorem RM.fr {m live_ oldLive_ zo : Nat} {zv zu : Nat → Int32} {B : List Nat} {h h' : xw_A} (K : RM m live_ oldLive_ zo zv zu h) (r : FrO B h h') (n0 : m ∉ B) (n1 : live_ ∉ B) (n2 : oldLive_ ∉ B) : RM m live_ oldLive_ zo zv zu h' := ⟨K.1.fr r n0, r _ _ n1 K.2.1, r _ _ n2 K.2.2⟩
/-- the class has a row where the reference has one -/
def Oc (gR : Nat → Option Nat) (zv : Nat → Int32) : Prop := ∀ j, j < 24 → (gR (j + 1) = none ↔ zv j < 0)
def Rl (gO : Int32) (gR gV : Nat → Option Nat) (zo : Nat) (zv zu : Nat → Int32) : Prop := gO = nI zo ∧ zo ≤ 1 ∧ Oc gR zv ∧ (zo = 1 → Oc gV zu)
theorem Oc.put {gR : Nat → Option Nat} {zv : Nat → Int32} {r c a vs : Nat} (h : Oc gR zv) (hc : c = r + 1) (hvs : vs < 600) : Oc (va_up gR c (some a)) (upd zv r (nI vs)) := fun j hj => by
  subst hc
  by_cases q : j = r
  · subst q
    rw [va_up_self, pk_us]
    exact ⟨(fun z => nomatch z), (fun z => absurd z (nI_pos (by omega)))⟩
  · rw [va_up_ne _ _ (by omega), pk_un q]
    exact h j hj
theorem Oc.del {gR : Nat → Option Nat} {zv : Nat → Int32} {r c : Nat} (h : Oc gR zv) (hc : c = r + 1) : Oc (va_up gR c none) (upd zv r (-1)) := fun j hj => by
  subst hc
  by_cases q : j = r
  · subst q
    rw [va_up_self, pk_us]
    exact ⟨fun _ => by decide, fun _ => rfl⟩
  · rw [va_up_ne _ _ (by omega), pk_un q]
    exact h j hj
theorem Oc.cnt {gR : Nat → Option Nat} {zv : Nat → Int32} (h : Oc gR zv) : ∀ n, n ≤ 24 → cntS gR n = cntL zv n := by
  intro n
  induction n with
  | zero => intro _; rfl
  | succ n ih =>
    intro hn
    rw [cntS, cntL, ih (by omega)]
    by_cases q : zv n < 0
    · rw [if_pos ((h n (by omega)).mpr q), if_neg (fun z => z q)]
    · rw [if_neg (fun z => q ((h n (by omega)).mp z)), if_pos q]
/-- the letters of the draft are the same -/
def RD (dl : Nat) (gD zd : Nat → Int32) : Prop := ∀ j, j < dl → gD j = zd j
/-! TIER E: how many tokens the texts have -/
/-- the tokens a: n of them; they are never changed -/
def TkN (A : List Nat) (h : xw_A) (a n : Nat) : Prop := a ∉ A ∧ ∃ l z : Nat, h a = some (.inr (9, [.ref l, .ref z, .int (nI n)]))
theorem TkN.fr {A B : List Nat} {h h' : xw_A} {a n : Nat} (k : TkN A h a n) (r : FrO B h h') (hB : ∀ q ∈ B, q ∈ A) : TkN A h' a n := by
  obtain ⟨h0, l, z, e⟩ := k
  exact ⟨h0, l, z, r _ _ (fun q => h0 (hB _ q)) e⟩
/-- the version a: its texts have n and n2 tokens -/
def VrN (A : List Nat) (h : xw_A) (a n n2 : Nat) : Prop := a ∉ A ∧ ∃ (vn ve : Int32) (vr p q : Nat), h a = some (.inr (10, [.int vn, .int (nI vr), .ref p, .ref q, .int ve])) ∧ TkN A h p n ∧ TkN A h q n2
theorem VrN.fr {A B : List Nat} {h h' : xw_A} {a n n2 : Nat} (k : VrN A h a n n2) (r : FrO B h h') (hB : ∀ q ∈ B, q ∈ A) : VrN A h' a n n2 := by
  obtain ⟨h0, vn, ve, vr, p, q, e, k1, k2⟩ := k
  exact ⟨h0, vn, ve, vr, p, q, r _ _ (fun q => h0 (hB _ q)) e, k1.fr r hB, k2.fr r hB⟩
abbrev tkc (ft fz : Nat → Int32) (r c : Nat) : Nat := tokN (fun i => ft (96 * r + 48 * c + i)) (fz (2 * r + c)).toNatClampNeg
abbrev pkc (fp fq : Nat → Int32) (c : Nat) : Nat := tokN (fun i => fp (48 * c + i)) (fq c).toNatClampNeg
/-- each row that is there has as many tokens as the reference's texts -/
def RTx (A : List Nat) (h : xw_A) (gR : Nat → Option Nat) (ft fz : Nat → Int32) : Prop := ∀ j, j < 24 → ∀ a, gR (j + 1) = some a → VrN A h a (tkc ft fz j 0) (tkc ft fz j 1)
theorem RTx.fr {A B : List Nat} {h h' : xw_A} {gR : Nat → Option Nat} {ft fz : Nat → Int32} (k : RTx A h gR ft fz) (r : FrO B h h') (hB : ∀ q ∈ B, q ∈ A) : RTx A h' gR ft fz := fun j hj a e => (k j hj a e).fr r hB
def RPr (A : List Nat) (h : xw_A) (gP gQ : Nat) (fp fq : Nat → Int32) : Prop := TkN A h gP (pkc fp fq 0) ∧ TkN A h gQ (pkc fp fq 1)
theorem RPr.fr {A B : List Nat} {h h' : xw_A} {gP gQ : Nat} {fp fq : Nat → Int32} (k : RPr A h gP gQ fp fq) (r : FrO B h h') (hB : ∀ q ∈ B, q ∈ A) : RPr A h' gP gQ fp fq := ⟨k.1.fr r hB, k.2.fr r hB⟩
theorem tkc_eq {ft ft' fz fz' : Nat → Int32} {r c r' c' : Nat} (hz : fz' (2 * r' + c') = fz (2 * r + c)) (h48 : ∃ k, fz (2 * r + c) = nI k ∧ k ≤ 48) (ht : ∀ i, i < 48 → ft' (96 * r' + 48 * c' + i) = ft (96 * r + 48 * c + i)) : tkc ft' fz' r' c' = tkc ft fz r c := by
  obtain ⟨k, hk, hk2⟩ := h48
  show tokN _ (fz' (2 * r' + c')).toNatClampNeg = tokN _ (fz (2 * r + c)).toNatClampNeg
  rw [hz, hk, nI_clamp (by omega)]
  exact tokN_eq (fun i hi => ht i (by omega))
theorem RTx.put {A : List Nat} {h : xw_A} {gR : Nat → Option Nat} {fp fq ft fz ft' fz' : Nat → Int32} {r c a gP gQ : Nat} {nn y : Int32} (k : RTx A h gR ft fz) (kp : RPr A h gP gQ fp fq) (hc : c = r + 1) (hr : r < 24) (hq : ∀ c, c < 2 → ∃ n, fq c = nI n ∧ n ≤ 48) (hz : SZo fz 48) (T : TxG fp fq ft fz r ft' fz')
    (ha : a ∉ A) (ea : h a = some (.inr (10, [.int nn, .int (nI c), .ref gP, .ref gQ, .int y]))) : RTx A h (va_up gR c (some a)) ft' fz' := fun j hj b hb => by
  subst hc
  by_cases q : j = r
  · subst q
    rw [va_up_self] at hb
    obtain rfl := Option.some.inj hb
    have e : ∀ cc, cc < 2 → tkc ft' fz' j cc = pkc fp fq cc := fun cc hcc => by
      obtain ⟨n, hn, hn2⟩ := hq cc hcc
      show tokN _ (fz' (2 * j + cc)).toNatClampNeg = tokN _ (fq cc).toNatClampNeg
      rw [T.2.2.1 cc hcc, hn, nI_clamp (by omega)]
      exact tokN_eq (fun i hi => T.1 cc hcc i (by omega))
    rw [e 0 (by omega), e 1 (by omega)]
    exact ⟨ha, nn, y, j + 1, gP, gQ, ea, kp.1, kp.2⟩
  · rw [va_up_ne _ _ (by omega)] at hb
    have e : ∀ cc, cc < 2 → tkc ft' fz' j cc = tkc ft fz j cc := fun cc hcc => tkc_eq (T.2.2.2 (2 * j + cc) (by omega)) (hz (2 * j + cc) (by omega)) (fun i hi => T.2.1 _ (by omega))
    rw [e 0 (by omega), e 1 (by omega)]
    exact k j hj b hb
theorem RTx.del {A : List Nat} {h : xw_A} {gR : Nat → Option Nat} {ft fz : Nat → Int32} {c : Nat} (k : RTx A h gR ft fz) : RTx A h (va_up gR c none) ft fz := fun j hj b hb => by
  by_cases q : j + 1 = c
  · rw [q, va_up_self] at hb
    cases hb
  · rw [va_up_ne _ _ q] at hb
    exact k j hj b hb
theorem RTx.cpy {A : List Nat} {h : xw_A} {gR gR2 : Nat → Option Nat} {ft fz ft2 fz2 : Nat → Int32} (k : RTx A h gR ft fz) (hz : SZo fz 48) (h1 : ∀ j, 1 ≤ j → j ≤ 24 → gR2 j = gR j) (h2 : ∀ k, k < 2304 → ft2 k = ft k) (h3 : ∀ k, k < 48 → fz2 k = fz k) : RTx A h gR2 ft2 fz2 := fun j hj b hb => by
  have e : ∀ cc, cc < 2 → tkc ft2 fz2 j cc = tkc ft fz j cc := fun cc hcc => tkc_eq (h3 (2 * j + cc) (by omega)) (hz (2 * j + cc) (by omega)) (fun i hi => h2 _ (by omega))
  rw [e 0 (by omega), e 1 (by omega)]
  exact k j hj b (by rw [← h1 (j + 1) (by omega) (by omega)]; exact hb)
/-- one text is set -/
theorem RPr.set {A : List Nat} {h : xw_A} {gP gQ p1 l z dl cN : Nat} {gD zd fp fq fp' : Nat → Int32} (k : RPr A h gP gQ fp fq) (J : RD dl gD zd) (hc : cN < 2) (hd : dl ≤ 48) (h1 : ∀ j, j < dl → fp' (48 * cN + j) = zd j) (h2 : ∀ k, (k < 48 * cN ∨ 48 * cN + 48 ≤ k) → fp' k = fp k) (hq : ∀ c, c < 2 → ∃ n, fq c = nI n ∧ n ≤ 48) (hp : p1 ∉ A) (ep : h p1 = some (.inr (9, [.ref l, .ref z, .int (nI (tokN gD dl))]))) :
    RPr A h (if cN = 0 then p1 else gP) (if cN = 0 then gQ else p1) fp' (upd fq cN (nI dl)) := by
  have e1 : pkc fp' (upd fq cN (nI dl)) cN = tokN gD dl := by
    show tokN _ (upd fq cN (nI dl) cN).toNatClampNeg = _
    rw [pk_us, nI_clamp (by omega)]
    exact tokN_eq (fun i hi => (h1 i hi).trans (J i hi).symm)
  have e2 : ∀ cc, cc < 2 → ¬ cc = cN → pkc fp' (upd fq cN (nI dl)) cc = pkc fp fq cc := fun cc hcc hne => by
    obtain ⟨n, hn, hn2⟩ := hq cc hcc
    show tokN _ (upd fq cN (nI dl) cc).toNatClampNeg = tokN _ (fq cc).toNatClampNeg
    rw [pk_un hne, hn, nI_clamp (by omega)]
    exact tokN_eq (fun i hi => h2 _ (by omega))
  rcases (show cN = 0 ∨ cN = 1 by omega) with rfl | rfl
  · rw [if_pos rfl, if_pos rfl]
    refine ⟨⟨hp, l, z, ?_⟩, ?_⟩
    · rw [e1]; exact ep
    · rw [e2 1 (by omega) (by omega)]; exact k.2
  · rw [if_neg (by decide), if_neg (by decide)]
    refine ⟨?_, ⟨hp, l, z, ?_⟩⟩
    · rw [e2 0 (by omega) (by omega)]; exact k.1
    · rw [e1]; exact ep
/-- the texts: prepared, of the rows, of the saved rows -/
def RE (A : List Nat) (h : xw_A) (gP gQ : Nat) (gR gV : Nat → Option Nat) (zo : Nat) (zp zq zt zz yt yz : Nat → Int32) : Prop :=
  RPr A h gP gQ zp zq ∧ RTx A h gR zt zz ∧ (zo = 1 → RTx A h gV yt yz) ∧ SZo zz 48 ∧ (zo = 1 → SZo yz 48) ∧ ∀ c, c < 2 → ∃ n, zq c = nI n ∧ n ≤ 48
theorem RE.fr {A B : List Nat} {h h' : xw_A} {gP gQ : Nat} {gR gV : Nat → Option Nat} {zo : Nat} {zp zq zt zz yt yz : Nat → Int32} (k : RE A h gP gQ gR gV zo zp zq zt zz yt yz) (r : FrO B h h') (hB : ∀ q ∈ B, q ∈ A) : RE A h' gP gQ gR gV zo zp zq zt zz yt yz :=
  ⟨k.1.fr r hB, k.2.1.fr r hB, fun q => (k.2.2.1 q).fr r hB, k.2.2.2.1, k.2.2.2.2⟩
theorem SZo.put {fp fq ft fz ft' fz' : Nat → Int32} {r : Nat} (hz : SZo fz 48) (hq : ∀ c, c < 2 → ∃ n, fq c = nI n ∧ n ≤ 48) (T : TxG fp fq ft fz r ft' fz') : SZo fz' 48 := fun i hi => by
  by_cases q : i < 2 * r ∨ 2 * r + 2 ≤ i
  · rw [T.2.2.2 i q]
    exact hz i hi
  · obtain ⟨c, hc, rfl⟩ : ∃ c, c < 2 ∧ i = 2 * r + c := ⟨i - 2 * r, by omega, by omega⟩
    rw [T.2.2.1 c hc]
    exact hq c hc
/-- a row gets the prepared texts, or the call is refused -/
theorem put_T {m gP gQ zo texts_ sizes_ : Nat} {A : List Nat} {gR gR2 gV : Nat → Option Nat} {zp zq zt zz yt yz : Nat → Int32} {h2 : xw_A} {rel : Nat → Prop} (E : RE A h2 gP gQ gR gV zo zp zq zt zz yt yz)
    (rl : (gR2 = gR ∧ Rf m 0 (.int 1) h2) ∨ ∃ (c a : Nat) (nn y : Int32), gR2 = va_up gR c (some a) ∧ Rf m 0 (.int 0) h2 ∧ (∀ r, r < 24 → rel r → c = r + 1) ∧ a ∉ A ∧ h2 a = some (.inr (10, [.int nn, .int (nI c), .ref gP, .ref gQ, .int y])))
    (md : ∃ ft' fz' : Nat → Int32, h2 texts_ = some (.inl (0, 2304, .inl ft')) ∧ h2 sizes_ = some (.inl (0, 48, .inl fz')) ∧ ((Rf m 0 (.int 1) h2 ∧ ft' = zt ∧ fz' = zz) ∨ (Rf m 0 (.int 0) h2 ∧ ∃ r, r < 24 ∧ rel r ∧ TxG zp zq zt zz r ft' fz'))) :
    ∃ ft' fz' : Nat → Int32, h2 texts_ = some (.inl (0, 2304, .inl ft')) ∧ h2 sizes_ = some (.inl (0, 48, .inl fz')) ∧ RE A h2 gP gQ gR2 gV zo zp zq ft' fz' yt yz := by
  obtain ⟨k1, k2, k3, k4, k5, k6⟩ := E
  obtain ⟨ft, fz, et, ez, md⟩ := md
  refine ⟨ft, fz, et, ez, ?_⟩
  rcases rl with ⟨rfl, e1⟩ | ⟨c, a, nn, y, rfl, e1, hr, ha, ea⟩
  · rcases md with ⟨-, rfl, rfl⟩ | ⟨e2, -⟩
    · exact ⟨k1, k2, k3, k4, k5, k6⟩
    · exact absurd (Value.int.inj (e1.inj e2)) (by decide)
  · rcases md with ⟨e2, -⟩ | ⟨-, r, hr2, hrel, T⟩
    · exact absurd (Value.int.inj (e1.inj e2)) (by decide)
    · exact ⟨k1, k2.put k1 (hr r hr2 hrel) hr2 k6 k4 T ha ea, k3, k4.put k6 T, k5, k6⟩
def RN (prepared_ preparedSize_ texts_ sizes_ oldTexts_ oldSizes_ : Nat) (zp zq zt zz yt yz : Nat → Int32) (h : xw_A) : Prop :=
  h prepared_ = some (.inl (0, 96, .inl zp)) ∧ h preparedSize_ = some (.inl (0, 2, .inl zq)) ∧ h texts_ = some (.inl (0, 2304, .inl zt)) ∧ h sizes_ = some (.inl (0, 48, .inl zz)) ∧ h oldTexts_ = some (.inl (0, 2304, .inl yt)) ∧ h oldSizes_ = some (.inl (0, 48, .inl yz))
theorem RN.fr {prepared_ preparedSize_ texts_ sizes_ oldTexts_ oldSizes_ : Nat} {zp zq zt zz yt yz : Nat → Int32} {B : List Nat} {h h' : xw_A} (K : RN prepared_ preparedSize_ texts_ sizes_ oldTexts_ oldSizes_ zp zq zt zz yt yz h) (r : FrO B h h') (n1 : prepared_ ∉ B) (n2 : preparedSize_ ∉ B) (n3 : texts_ ∉ B) (n4 : sizes_ ∉ B) (n5 : oldTexts_ ∉ B) (n6 : oldSizes_ ∉ B) : RN prepared_ preparedSize_ texts_ sizes_ oldTexts_ oldSizes_ zp zq zt zz yt yz h' :=
  ⟨r _ _ n1 K.1, r _ _ n2 K.2.1, r _ _ n3 K.2.2.1, r _ _ n4 K.2.2.2.1, r _ _ n5 K.2.2.2.2.1, r _ _ n6 K.2.2.2.2.2⟩
theorem beg_T {gP gQ zo zo2 texts_ sizes_ oldTexts_ oldSizes_ : Nat} {A : List Nat} {gO gO2 : Int32} {gR gV gV2 : Nat → Option Nat} {zv zu zu2 zp zq zt zz yt yz : Nat → Int32} {h1 h2 : xw_A} {P1 P2 : Prop} (E : RE A h2 gP gQ gR gV zo zp zq zt zz yt yz)
    (rl : (¬ gO = 0 ∧ gO2 = gO ∧ gV2 = gV ∧ P1) ∨ (gO = 0 ∧ gO2 = 1 ∧ (∀ j, 1 ≤ j → j ≤ 24 → gV2 j = gR j) ∧ P2))
    (md : (zo = 1 ∧ (∀ f : Nat → Int32, h1 oldTexts_ = some (.inl (0, 2304, .inl f)) → h2 oldTexts_ = some (.inl (0, 2304, .inl f))) ∧ ∀ f : Nat → Int32, h1 oldSizes_ = some (.inl (0, 48, .inl f)) → h2 oldSizes_ = some (.inl (0, 48, .inl f))) ∨ (zo = 0 ∧ (∀ ft fz : Nat → Int32, h1 texts_ = some (.inl (0, 2304, .inl ft)) → h1 sizes_ = some (.inl (0, 48, .inl fz)) → ∃ f g : Nat → Int32, h2 oldTexts_ = some (.inl (0, 2304, .inl f)) ∧ h2 oldSizes_ = some (.inl (0, 48, .inl g)) ∧ (∀ k, k < 2304 → f k = ft k) ∧ ∀ k, k < 48 → g k = fz k)))
    (J : Rl gO gR gV zo zv zu) (_ : Rl gO2 gR gV2 zo2 zv zu2) (e1 : h1 texts_ = some (.inl (0, 2304, .inl zt))) (e2 : h1 sizes_ = some (.inl (0, 48, .inl zz))) (e3 : h1 oldTexts_ = some (.inl (0, 2304, .inl yt))) (e4 : h1 oldSizes_ = some (.inl (0, 48, .inl yz))) :
    ∃ yt2 yz2 : Nat → Int32, h2 oldTexts_ = some (.inl (0, 2304, .inl yt2)) ∧ h2 oldSizes_ = some (.inl (0, 48, .inl yz2)) ∧ RE A h2 gP gQ gR gV2 zo2 zp zq zt zz yt2 yz2 := by
  obtain ⟨k1, k2, k3, k4, k5, k6⟩ := E
  obtain ⟨j1, -⟩ := J
  rcases rl with ⟨ho, -, rfl, -⟩ | ⟨ho, -, hv, -⟩
  · rcases md with ⟨hz, m1, m2⟩ | ⟨hz, -⟩
    · exact ⟨yt, yz, m1 yt e3, m2 yz e4, k1, k2, fun _ => k3 hz, k4, fun _ => k5 hz, k6⟩
    · exact absurd (by rw [j1, hz]; rfl) ho
  · rcases md with ⟨hz, -⟩ | ⟨hz, m1⟩
    · exact absurd ho (by rw [j1, hz]; decide)
    · obtain ⟨f, g, ef, eg, hf, hg⟩ := m1 zt zz e1 e2
      exact ⟨f, g, ef, eg, k1, k2, fun _ => k2.cpy k4 hv hf hg, k4, fun _ i hi => by rw [hg i hi]; exact k4 i hi, k6⟩
theorem rol_T {gP gQ zo texts_ sizes_ oldTexts_ oldSizes_ : Nat} {A : List Nat} {gO gO2 : Int32} {gR gR2 gV : Nat → Option Nat} {zv zu zp zq zt zz yt yz : Nat → Int32} {h1 h2 : xw_A} {P1 P2 : Prop} (E : RE A h2 gP gQ gR gV zo zp zq zt zz yt yz)
    (rl : (gO = 0 ∧ gO2 = gO ∧ gR2 = gR ∧ P1) ∨ (¬ gO = 0 ∧ gO2 = 0 ∧ (∀ j, 1 ≤ j → j ≤ 24 → gR2 j = gV j) ∧ P2))
    (md : (zo = 0 ∧ (∀ f : Nat → Int32, h1 texts_ = some (.inl (0, 2304, .inl f)) → h2 texts_ = some (.inl (0, 2304, .inl f))) ∧ ∀ f : Nat → Int32, h1 sizes_ = some (.inl (0, 48, .inl f)) → h2 sizes_ = some (.inl (0, 48, .inl f))) ∨ (zo = 1 ∧ (∀ ft fz : Nat → Int32, h1 oldTexts_ = some (.inl (0, 2304, .inl ft)) → h1 oldSizes_ = some (.inl (0, 48, .inl fz)) → ∃ f g : Nat → Int32, h2 texts_ = some (.inl (0, 2304, .inl f)) ∧ h2 sizes_ = some (.inl (0, 48, .inl g)) ∧ (∀ k, k < 2304 → f k = ft k) ∧ ∀ k, k < 48 → g k = fz k)))
    (J : Rl gO gR gV zo zv zu) (e1 : h1 texts_ = some (.inl (0, 2304, .inl zt))) (e2 : h1 sizes_ = some (.inl (0, 48, .inl zz))) (e3 : h1 oldTexts_ = some (.inl (0, 2304, .inl yt))) (e4 : h1 oldSizes_ = some (.inl (0, 48, .inl yz))) :
    ∃ zt2 zz2 : Nat → Int32, h2 texts_ = some (.inl (0, 2304, .inl zt2)) ∧ h2 sizes_ = some (.inl (0, 48, .inl zz2)) ∧ RE A h2 gP gQ gR2 gV 0 zp zq zt2 zz2 yt yz := by
  obtain ⟨k1, k2, k3, k4, k5, k6⟩ := E
  obtain ⟨j1, -⟩ := J
  rcases rl with ⟨ho, -, rfl, -⟩ | ⟨ho, -, hr, -⟩
  · rcases md with ⟨hz, m1, m2⟩ | ⟨hz, -⟩
    · exact ⟨zt, zz, m1 zt e1, m2 zz e2, k1, k2, fun q => absurd q (by decide), k4, fun q => absurd q (by decide), k6⟩
    · exact absurd ho (by rw [j1, hz]; decide)
  · rcases md with ⟨hz, -⟩ | ⟨hz, m1⟩
    · exact absurd (by rw [j1, hz]; rfl) ho
    · obtain ⟨f, g, ef, eg, hf, hg⟩ := m1 yt yz e3 e4
      exact ⟨f, g, ef, eg, k1, (k3 hz).cpy (k5 hz) hr hf hg, fun q => absurd q (by decide), fun i hi => by rw [hg i hi]; exact k5 hz i hi, fun q => absurd q (by decide), k6⟩
theorem set_T {dl dl2 gP gQ gP2 gQ2 zo prepared_ preparedSize_ : Nat} {A B : List Nat} {c k : Int32} {gR gV : Nat → Option Nat} {gD zd zp zq zt zz yt yz : Nat → Int32} {h1 h2 : xw_A} {P3 : Prop} {P4 : Nat → Prop} (E : RE A h2 gP gQ gR gV zo zp zq zt zz yt yz) (J : RD dl gD zd)
    (rl : (((c < 0 ∨ 1 < c) ∧ dl2 = dl ∧ some (Value.int k) = some (.int 1)) ∨ ((¬ c < 0 ∧ ¬ 1 < c) ∧ 48 < dl ∧ dl2 = dl ∧ some (Value.int k) = some (.int 2)) ∨ ((¬ c < 0 ∧ ¬ 1 < c) ∧ dl ≤ 48 ∧ dl2 = 0 ∧ some (Value.int k) = some (.int 0) ∧ P3)) ∧ ((¬ some (Value.int k) = some (.int 0) ∧ gP2 = gP ∧ gQ2 = gQ) ∨ ∃ cN p1 l z : Nat, cN < 2 ∧ c = nI cN ∧ some (Value.int k) = some (.int 0) ∧ p1 ∉ A ∧ h1 p1 = some (.inr (9, [.ref l, .ref z, .int (nI (tokN gD dl))])) ∧ gP2 = (if cN = 0 then p1 else gP) ∧ gQ2 = (if cN = 0 then gQ else p1) ∧ P4 p1))
    (md : ∃ fp' fq' : Nat → Int32, h2 prepared_ = some (.inl (0, 96, .inl fp')) ∧ h2 preparedSize_ = some (.inl (0, 2, .inl fq')) ∧ (((c < 0 ∨ 1 < c ∨ 48 < dl) ∧ fp' = zp ∧ fq' = zq) ∨ ∃ cN, cN < 2 ∧ c = nI cN ∧ dl ≤ 48 ∧ (∀ j, j < dl → fp' (48 * cN + j) = zd j) ∧ (∀ k, (k < 48 * cN ∨ 48 * cN + 48 ≤ k) → fp' k = zp k) ∧ fq' = upd zq cN (nI dl)))
    (r : FrO B h1 h2) (hB : ∀ q ∈ B, q ∈ A) :
    ∃ zp2 zq2 : Nat → Int32, h2 prepared_ = some (.inl (0, 96, .inl zp2)) ∧ h2 preparedSize_ = some (.inl (0, 2, .inl zq2)) ∧ RE A h2 gP2 gQ2 gR gV zo zp2 zq2 zt zz yt yz := by
  obtain ⟨k1, k2, k3, k4, k5, k6⟩ := E
  obtain ⟨r1, r2⟩ := rl
  obtain ⟨fp, fq, ep, eq, md⟩ := md
  refine ⟨fp, fq, ep, eq, ?_⟩
  rcases r2 with ⟨hv, rfl, rfl⟩ | ⟨cN, p1, l, z, hc, hcn, hv, hp, e1, rfl, rfl, -⟩
  · rcases md with ⟨-, rfl, rfl⟩ | ⟨cN, hc, hcn, hd, -⟩
    · exact ⟨k1, k2, k3, k4, k5, k6⟩
    · have g0 : ¬ c < 0 := by rw [hcn]; exact nI_pos (by omega)
      have g1 : ¬ 1 < c := by rw [hcn]; exact nI_nlt (a := 1) (show cN ≤ 1 by omega) (by decide)
      rcases r1 with ⟨q, -⟩ | ⟨-, q, -⟩ | ⟨-, -, -, q, -⟩
      · exact (q.elim g0 g1).elim
      · omega
      · exact absurd q hv
  · have g0 : ¬ c < 0 := by rw [hcn]; exact nI_pos (by omega)
    have g1 : ¬ 1 < c := by rw [hcn]; exact nI_nlt (a := 1) (show cN ≤ 1 by omega) (by decide)
    have hd : dl ≤ 48 := by
      rcases r1 with ⟨q, -⟩ | ⟨-, -, -, q⟩ | ⟨-, q, -⟩
      · exact (q.elim g0 g1).elim
      · exact absurd (Value.int.inj (Option.some.inj (q.symm.trans hv))) (by decide)
      · exact q
    rcases md with ⟨q, -⟩ | ⟨c2, hc2, hcn2, -, m1, m2, rfl⟩
    · rcases q with q | q | q
      · exact (g0 q).elim
      · exact (g1 q).elim
      · omega
    · obtain rfl : c2 = cN := (nI_eq (by omega) (by omega)).mp (hcn2.symm.trans hcn)
      exact ⟨k1.set J hc hd m1 m2 k6 hp (r p1 _ (nA9 hp hB) e1), k2, k3, k4, k5, fun c9 hc9 => by by_cases q : c9 = c2; (rw [q, pk_us]; exact ⟨dl, rfl, hd⟩); (rw [pk_un q]; exact k6 c9 hc9)⟩
theorem ins_D {m o live_ zo : Nat} {gO : Int32} {gR gR2 gV : Nat → Option Nat} {zv zu : Nat → Int32} {k y : Int32} {h1 h2 : xw_A} {P : Nat → Nat → Prop} (J : Rl gO gR gV zo zv zu)
    (rl : ((∀ j, 1 ≤ j → j ≤ 24 → gR j ≠ none) ∧ gR2 = gR ∧ some (Value.int k) = some (.int 1)) ∨ ∃ c a : Nat, 1 ≤ c ∧ c ≤ 24 ∧ gR c = none ∧ (∀ j, 1 ≤ j → j < c → gR j ≠ none) ∧ gR2 = va_up gR c (some a) ∧ some (Value.int k) = some (.int 0) ∧ (∃ f : Nat → Int64, h1 o = some (.inl (2, 1, .inr (.inl f))) ∧ f 0 = (nI c).toInt64) ∧ P c a)
    (md : (∃ r vs : Nat, r < 24 ∧ vs < 600 ∧ zv r < 0 ∧ (∀ j, j < r → ¬ zv j < 0) ∧ Rf m 0 (.int 0) h2 ∧ some (Value.int y) = some (.int (nI (r + 1))) ∧ h2 live_ = some (.inl (0, 24, .inl (upd zv r (nI vs))))) ∨ ((∀ j, j < 24 → ¬ zv j < 0) ∧ Rf m 0 (.int 1) h2 ∧ h2 live_ = some (.inl (0, 24, .inl zv)))) :
    (∃ zv2 : Nat → Int32, h2 live_ = some (.inl (0, 24, .inl zv2)) ∧ Rl gO gR2 gV zo zv2 zu) ∧ ((k = 1 ∧ Rf m 0 (.int 1) h2) ∨ (k = 0 ∧ Rf m 0 (.int 0) h2 ∧ ∃ f : Nat → Int64, h1 o = some (.inl (2, 1, .inr (.inl f))) ∧ f 0 = y.toInt64)) ∧ ((gR2 = gR ∧ Rf m 0 (.int 1) h2) ∨ ∃ c a : Nat, gR2 = va_up gR c (some a) ∧ Rf m 0 (.int 0) h2 ∧ (∀ r, r < 24 → some (Value.int y) = some (.int (nI (r + 1))) → c = r + 1) ∧ P c a) := by
  obtain ⟨j1, j2, j3, j4⟩ := J
  rcases rl with ⟨ha, rfl, hk⟩ | ⟨c, a, hc1, hc2, hcn, hlo, rfl, hk, ⟨f, ef, hf⟩, hP⟩
  · rcases md with ⟨r, vs, hr, -, hneg, -⟩ | ⟨-, he, hl⟩
    · exact absurd ((j3 r hr).mpr hneg) (ha (r + 1) (by omega) (by omega))
    · exact ⟨⟨zv, hl, j1, j2, j3, j4⟩, Or.inl ⟨Value.int.inj (Option.some.inj hk), he⟩, Or.inl ⟨rfl, he⟩⟩
  · rcases md with ⟨r, vs, hr, hvs, hneg, hnl, he, hy, hl⟩ | ⟨hal, -⟩
    · have hcr : c = r + 1 := by
        rcases Nat.lt_trichotomy c (r + 1) with q | q | q
        · obtain ⟨c0, rfl⟩ : ∃ c0, c = c0 + 1 := ⟨c - 1, by omega⟩
          exact absurd ((j3 c0 (by omega)).mp hcn) (hnl c0 (by omega))
        · exact q
        · exact absurd ((j3 r hr).mpr hneg) (hlo (r + 1) (by omega) (by omega))
      refine ⟨⟨_, hl, j1, j2, j3.put hcr hvs, j4⟩, Or.inr ⟨Value.int.inj (Option.some.inj hk), he, f, ef, ?_⟩, Or.inr ⟨c, a, rfl, he, fun r2 hr2 hy2 => ?_, hP⟩⟩
      · rw [hf, Value.int.inj (Option.some.inj hy), hcr]
      · have q := (nI_eq (by omega) (by omega)).mp ((Value.int.inj (Option.some.inj hy)).symm.trans (Value.int.inj (Option.some.inj hy2)))
        omega
    · obtain ⟨c0, rfl⟩ : ∃ c0, c = c0 + 1 := ⟨c - 1, by omega⟩
      exact absurd ((j3 c0 (by omega)).mp hcn) (hal c0 (by omega))
theorem rep_D {m live_ zo : Nat} {gO x : Int32} {gR gR2 gV : Nat → Option Nat} {zv zu : Nat → Int32} {k : Int32} {h2 : xw_A} {P : Nat → Nat → Prop} (J : Rl gO gR gV zo zv zu)
    (rl : ((∀ j, 1 ≤ j → j ≤ 24 → x = nI j → gR j = none) ∧ gR2 = gR ∧ some (Value.int k) = some (.int 1)) ∨ ∃ c a : Nat, 1 ≤ c ∧ c ≤ 24 ∧ x = nI c ∧ gR c ≠ none ∧ gR2 = va_up gR c (some a) ∧ some (Value.int k) = some (.int 0) ∧ P c a)
    (md : (∃ j vs : Nat, j < 24 ∧ vs < 600 ∧ x = nI (j + 1) ∧ ¬ zv j < 0 ∧ Rf m 0 (.int 0) h2 ∧ h2 live_ = some (.inl (0, 24, .inl (upd zv j (nI vs))))) ∨ ((∀ j, j < 24 → x = nI (j + 1) → zv j < 0) ∧ Rf m 0 (.int 1) h2 ∧ h2 live_ = some (.inl (0, 24, .inl zv)))) :
    (∃ zv2 : Nat → Int32, h2 live_ = some (.inl (0, 24, .inl zv2)) ∧ Rl gO gR2 gV zo zv2 zu) ∧ ((k = 1 ∧ Rf m 0 (.int 1) h2) ∨ (k = 0 ∧ Rf m 0 (.int 0) h2)) ∧ ((gR2 = gR ∧ Rf m 0 (.int 1) h2) ∨ ∃ c a : Nat, gR2 = va_up gR c (some a) ∧ Rf m 0 (.int 0) h2 ∧ (∀ r, r < 24 → x = nI (r + 1) → c = r + 1) ∧ P c a) := by
  obtain ⟨j1, j2, j3, j4⟩ := J
  rcases rl with ⟨ha, rfl, hk⟩ | ⟨c, a, hc1, hc2, hx, hcn, rfl, hk, hP⟩
  · rcases md with ⟨j, vs, hj, -, hx, hnn, -⟩ | ⟨-, he, hl⟩
    · exact absurd ((j3 j hj).mp (ha (j + 1) (by omega) (by omega) hx)) hnn
    · exact ⟨⟨zv, hl, j1, j2, j3, j4⟩, Or.inl ⟨Value.int.inj (Option.some.inj hk), he⟩, Or.inl ⟨rfl, he⟩⟩
  · rcases md with ⟨j, vs, hj, hvs, hx2, hnn, he, hl⟩ | ⟨hal, -⟩
    · have hcj : c = j + 1 := (nI_eq (by omega) (by omega)).mp (hx.symm.trans hx2)
      exact ⟨⟨_, hl, j1, j2, j3.put hcj hvs, j4⟩, Or.inr ⟨Value.int.inj (Option.some.inj hk), he⟩, Or.inr ⟨c, a, rfl, he, fun r2 hr2 hx3 => (nI_eq (by omega) (by omega)).mp (hx.symm.trans hx3), hP⟩⟩
    · obtain ⟨c0, rfl⟩ : ∃ c0, c = c0 + 1 := ⟨c - 1, by omega⟩
      exact absurd ((j3 c0 (by omega)).mpr (hal c0 (by omega) hx)) hcn
theorem del_D {m live_ zo : Nat} {gO x : Int32} {gR gR2 gV : Nat → Option Nat} {zv zu : Nat → Int32} {k y : Int32} {h1 h2 : xw_A} {o : Nat} {A : List Nat} {ft fz : Nat → Int32} (J : Rl gO gR gV zo zv zu)
    (rl : ((∀ j, 1 ≤ j → j ≤ 24 → x = nI j → gR j = none) ∧ gR2 = gR ∧ some (Value.int k) = some (.int 1)) ∨ ∃ c : Nat, 1 ≤ c ∧ c ≤ 24 ∧ x = nI c ∧ gR c ≠ none ∧ gR2 = va_up gR c none ∧ some (Value.int k) = some (.int 0) ∧ ∃ (a p q n n2 l z l2 z2 vr : Nat) (vn ve : Int32) (f : Nat → Int64), gR c = some a ∧ h1 a = some (.inr (10, [.int vn, .int (nI vr), .ref p, .ref q, .int ve])) ∧ h1 p = some (.inr (9, [.ref l, .ref z, .int (nI n)])) ∧ h1 q = some (.inr (9, [.ref l2, .ref z2, .int (nI n2)])) ∧ h1 o = some (.inl (2, 1, .inr (.inl f))) ∧ f 0 = (nI (n + n2)).toInt64)
    (md : (∃ j : Nat, j < 24 ∧ x = nI (j + 1) ∧ ¬ zv j < 0 ∧ Rf m 0 (.int 0) h2 ∧ h2 live_ = some (.inl (0, 24, .inl (upd zv j (-1))))) ∨ ((∀ j, j < 24 → x = nI (j + 1) → zv j < 0) ∧ Rf m 0 (.int 1) h2 ∧ h2 live_ = some (.inl (0, 24, .inl zv)))) (E : RTx A h1 gR ft fz)
    (my : ∀ j, j < 24 → x = nI (j + 1) → Rf m 0 (.int 0) h2 → some (Value.int y) = some (.int (nI (tkc ft fz j 0 + tkc ft fz j 1)))) :
    (∃ zv2 : Nat → Int32, h2 live_ = some (.inl (0, 24, .inl zv2)) ∧ Rl gO gR2 gV zo zv2 zu) ∧ ((k = 1 ∧ Rf m 0 (.int 1) h2) ∨ (k = 0 ∧ Rf m 0 (.int 0) h2 ∧ ∃ f : Nat → Int64, h1 o = some (.inl (2, 1, .inr (.inl f))) ∧ f 0 = y.toInt64)) ∧ (gR2 = gR ∨ ∃ c, gR2 = va_up gR c none) := by
  obtain ⟨j1, j2, j3, j4⟩ := J
  rcases rl with ⟨ha, rfl, hk⟩ | ⟨c, hc1, hc2, hx, hcn, rfl, hk, a, p, q, n, n2, l, z, l2, z2, vr, vn, ve, f, hca, ea, ep, eq, ef, hf⟩
  · rcases md with ⟨j, hj, hx, hnn, -⟩ | ⟨-, he, hl⟩
    · exact absurd ((j3 j hj).mp (ha (j + 1) (by omega) (by omega) hx)) hnn
    · exact ⟨⟨zv, hl, j1, j2, j3, j4⟩, Or.inl ⟨Value.int.inj (Option.some.inj hk), he⟩, Or.inl rfl⟩
  · rcases md with ⟨j, hj, hx2, hnn, he, hl⟩ | ⟨hal, -⟩
    · have hcj : c = j + 1 := (nI_eq (by omega) (by omega)).mp (hx.symm.trans hx2)
      refine ⟨⟨_, hl, j1, j2, j3.del hcj, j4⟩, Or.inr ⟨Value.int.inj (Option.some.inj hk), he, f, ef, ?_⟩, Or.inr ⟨c, rfl⟩⟩
      obtain ⟨-, vn9, ve9, vr9, p9, q9, e9, ⟨-, l9, z9, ep9⟩, -, l8, z8, eq9⟩ := E j hj a (by rw [← hcj]; exact hca)
      have e1 := ea.symm.trans e9
      simp only [Option.some.injEq, Sum.inr.injEq, Prod.mk.injEq, List.cons.injEq, Value.int.injEq, Value.ref.injEq, true_and, and_true] at e1
      obtain ⟨-, -, rfl, rfl, -⟩ := e1
      have e2 := ep.symm.trans ep9
      have e3 := eq.symm.trans eq9
      simp only [Option.some.injEq, Sum.inr.injEq, Prod.mk.injEq, List.cons.injEq, Value.int.injEq, Value.ref.injEq, true_and, and_true] at e2 e3
      rw [hf, Value.int.inj (Option.some.inj (my j hj hx2 he)), ← nI_add, ← nI_add, e2.2.2, e3.2.2]
    · obtain ⟨c0, rfl⟩ : ∃ c0, c = c0 + 1 := ⟨c - 1, by omega⟩
      exact absurd ((j3 c0 (by omega)).mpr (hal c0 (by omega) hx)) hcn
theorem beg_D {m live_ oldLive_ zo : Nat} {gO gO2 : Int32} {gR gV gV2 : Nat → Option Nat} {zv zu : Nat → Int32} {k : Int32} {h1 h2 : xw_A} (J : Rl gO gR gV zo zv zu)
    (rl : (¬ gO = 0 ∧ gO2 = gO ∧ gV2 = gV ∧ some (Value.int k) = some (.int 1)) ∨ (gO = 0 ∧ gO2 = 1 ∧ (∀ j, 1 ≤ j → j ≤ 24 → gV2 j = gR j) ∧ some (Value.int k) = some (.int 0)))
    (md : (zo = 1 ∧ Rf m 0 (.int 1) h2 ∧ Rf m 20 (.int (nI 1)) h2 ∧ ∀ fov : Nat → Int32, h1 oldLive_ = some (.inl (0, 24, .inl fov)) → h2 oldLive_ = some (.inl (0, 24, .inl fov))) ∨ (zo = 0 ∧ Rf m 0 (.int 0) h2 ∧ Rf m 20 (.int (nI 1)) h2 ∧ ∀ fv : Nat → Int32, h1 live_ = some (.inl (0, 24, .inl fv)) → ∃ fov : Nat → Int32, h2 oldLive_ = some (.inl (0, 24, .inl fov)) ∧ ∀ k, k < 24 → fov k = fv k))
    (el : h1 live_ = some (.inl (0, 24, .inl zv))) (eu : h1 oldLive_ = some (.inl (0, 24, .inl zu))) :
    (∃ (zo2 : Nat) (zu2 : Nat → Int32), Rf m 20 (.int (nI zo2)) h2 ∧ h2 oldLive_ = some (.inl (0, 24, .inl zu2)) ∧ Rl gO2 gR gV2 zo2 zv zu2) ∧ ((k = 1 ∧ Rf m 0 (.int 1) h2) ∨ (k = 0 ∧ Rf m 0 (.int 0) h2)) := by
  obtain ⟨j1, j2, j3, j4⟩ := J
  rcases rl with ⟨ho, rfl, rfl, hk⟩ | ⟨ho, rfl, hv, hk⟩
  · rcases md with ⟨hz, he, h20, hu⟩ | ⟨hz, -⟩
    · subst hz
      exact ⟨⟨1, zu, h20, hu zu eu, j1, j2, j3, j4⟩, Or.inl ⟨Value.int.inj (Option.some.inj hk), he⟩⟩
    · exact absurd (by rw [j1, hz]; rfl) ho
  · rcases md with ⟨hz, -⟩ | ⟨hz, he, h20, hu⟩
    · exact absurd ho (by rw [j1, hz]; decide)
    · obtain ⟨zu2, ew, hu2⟩ := hu zv el
      exact ⟨⟨1, zu2, h20, ew, rfl, Nat.le_refl _, j3, fun _ j hj => by rw [hv (j + 1) (by omega) (by omega), hu2 j hj]; exact j3 j hj⟩, Or.inr ⟨Value.int.inj (Option.some.inj hk), he⟩⟩
theorem com_D {m zo : Nat} {gO gO2 : Int32} {gR gV : Nat → Option Nat} {zv zu : Nat → Int32} {k : Int32} {h2 : xw_A} (J : Rl gO gR gV zo zv zu)
    (rl : (gO = 0 ∧ gO2 = gO ∧ some (Value.int k) = some (.int 1)) ∨ (¬ gO = 0 ∧ gO2 = 0 ∧ some (Value.int k) = some (.int 0)))
    (md : ((zo = 0 ∧ Rf m 0 (.int 1) h2) ∨ (zo = 1 ∧ Rf m 0 (.int 0) h2)) ∧ Rf m 20 (.int (nI 0)) h2) :
    Rf m 20 (.int (nI 0)) h2 ∧ Rl gO2 gR gV 0 zv zu ∧ ((k = 1 ∧ Rf m 0 (.int 1) h2) ∨ (k = 0 ∧ Rf m 0 (.int 0) h2)) := by
  obtain ⟨j1, j2, j3, j4⟩ := J
  obtain ⟨md, h20⟩ := md
  rcases rl with ⟨ho, rfl, hk⟩ | ⟨ho, rfl, hk⟩
  · rcases md with ⟨hz, he⟩ | ⟨hz, -⟩
    · subst hz
      exact ⟨h20, ⟨j1, j2, j3, fun q => absurd q (by decide)⟩, Or.inl ⟨Value.int.inj (Option.some.inj hk), he⟩⟩
    · exact absurd ho (by rw [j1, hz]; decide)
  · rcases md with ⟨hz, -⟩ | ⟨hz, he⟩
    · exact absurd (by rw [j1, hz]; rfl) ho
    · exact ⟨h20, ⟨rfl, Nat.zero_le _, j3, fun q => absurd q (by decide)⟩, Or.inr ⟨Value.int.inj (Option.some.inj hk), he⟩⟩
theorem rol_D {m o live_ oldLive_ zo : Nat} {gO gO2 : Int32} {gR gR2 gV : Nat → Option Nat} {zv zu : Nat → Int32} {k y : Int32} {h1 h2 : xw_A} (J : Rl gO gR gV zo zv zu)
    (rl : (gO = 0 ∧ gO2 = gO ∧ gR2 = gR ∧ some (Value.int k) = some (.int 1)) ∨ (¬ gO = 0 ∧ gO2 = 0 ∧ (∀ j, 1 ≤ j → j ≤ 24 → gR2 j = gV j) ∧ some (Value.int k) = some (.int 0) ∧ ∃ f : Nat → Int64, h1 o = some (.inl (2, 1, .inr (.inl f))) ∧ f 0 = (nI (cntS gR2 24)).toInt64))
    (md : (zo = 0 ∧ Rf m 0 (.int 1) h2 ∧ Rf m 20 (.int (nI 0)) h2 ∧ ∀ fv : Nat → Int32, h1 live_ = some (.inl (0, 24, .inl fv)) → h2 live_ = some (.inl (0, 24, .inl fv))) ∨ (zo = 1 ∧ Rf m 0 (.int 0) h2 ∧ Rf m 20 (.int (nI 0)) h2 ∧ ∀ fov : Nat → Int32, h1 oldLive_ = some (.inl (0, 24, .inl fov)) → ∃ fv : Nat → Int32, h2 live_ = some (.inl (0, 24, .inl fv)) ∧ (∀ k, k < 24 → fv k = fov k) ∧ some (Value.int y) = some (.int (nI (cntL fv 24)))))
    (el : h1 live_ = some (.inl (0, 24, .inl zv))) (eu : h1 oldLive_ = some (.inl (0, 24, .inl zu))) :
    (∃ zv2 : Nat → Int32, Rf m 20 (.int (nI 0)) h2 ∧ h2 live_ = some (.inl (0, 24, .inl zv2)) ∧ Rl gO2 gR2 gV 0 zv2 zu) ∧ ((k = 1 ∧ Rf m 0 (.int 1) h2) ∨ (k = 0 ∧ Rf m 0 (.int 0) h2 ∧ ∃ f : Nat → Int64, h1 o = some (.inl (2, 1, .inr (.inl f))) ∧ f 0 = y.toInt64)) := by
  obtain ⟨j1, j2, j3, j4⟩ := J
  rcases rl with ⟨ho, rfl, rfl, hk⟩ | ⟨ho, rfl, hr, hk, f, ef, hf⟩
  · rcases md with ⟨hz, he, h20, hu⟩ | ⟨hz, -⟩
    · subst hz
      exact ⟨⟨zv, h20, hu zv el, j1, j2, j3, fun q => absurd q (by decide)⟩, Or.inl ⟨Value.int.inj (Option.some.inj hk), he⟩⟩
    · exact absurd ho (by rw [j1, hz]; decide)
  · rcases md with ⟨hz, -⟩ | ⟨hz, he, h20, hu⟩
    · exact absurd (by rw [j1, hz]; rfl) ho
    · obtain ⟨zv2, ew, hv2, hy⟩ := hu zu eu
      have oc : Oc gR2 zv2 := fun j hj => by rw [hr (j + 1) (by omega) (by omega), hv2 j hj]; exact j4 hz j hj
      refine ⟨⟨zv2, h20, ew, rfl, Nat.zero_le _, oc, fun q => absurd q (by decide)⟩, Or.inr ⟨Value.int.inj (Option.some.inj hk), he, f, ef, ?_⟩⟩
      rw [hf, Value.int.inj (Option.some.inj hy), oc.cnt 24 (Nat.le_refl _)]
theorem let_R {dl dl2 draft_ : Nat} {w : Int64} {gD gD2 zd : Nat → Int32} {h2 : xw_A} {P1 : Prop} {P2 P3 : Nat → Prop} (J : RD dl gD zd)
    (rl : (((ltr (oct w) 8 0).getD 0 = 0 ∧ dl2 = dl ∧ P1) ∨ ∃ n, ltr (oct w) 8 0 = some (n + 1) ∧ ((96 < dl + (n + 1) ∧ dl2 = dl ∧ P2 n) ∨ (dl + (n + 1) ≤ 96 ∧ dl2 = dl + (n + 1) ∧ P3 n))) ∧ (∀ j, j < dl → gD2 j = gD j) ∧ ∀ n, ltr (oct w) 8 0 = some (n + 1) → dl + (n + 1) ≤ 96 → ∀ t, t < n + 1 → gD2 (dl + t) = oct w t)
    (md : ∃ fd' : Nat → Int32, h2 draft_ = some (.inl (0, 96, .inl fd')) ∧ (∀ j, j < dl → fd' j = zd j) ∧ ∀ n, ltr (oct w) 8 0 = some (n + 1) → dl + (n + 1) ≤ 96 → ∀ t, t < n + 1 → fd' (dl + t) = oct w t) :
    ∃ zd2 : Nat → Int32, h2 draft_ = some (.inl (0, 96, .inl zd2)) ∧ RD dl2 gD2 zd2 := by
  obtain ⟨rl, hg, hg2⟩ := rl
  obtain ⟨fd, e, hf, hf2⟩ := md
  refine ⟨fd, e, fun j hj => ?_⟩
  by_cases q : j < dl
  · rw [hg j q, hf j q]
    exact J j q
  · rcases rl with ⟨-, r, -⟩ | ⟨n, hn, ⟨-, r, -⟩ | ⟨hle, r, -⟩⟩
    · omega
    · omega
    · obtain ⟨t, rfl⟩ : ∃ t, j = dl + t := ⟨j - dl, by omega⟩
      rw [hg2 n hn hle t (by omega), hf2 n hn hle t (by omega)]
theorem set_R {dl dl2 : Nat} {c : Int32} {gD zd : Nat → Int32} {P1 P2 P3 : Prop} (J : RD dl gD zd) (rl : ((c < 0 ∨ 1 < c) ∧ dl2 = dl ∧ P1) ∨ ((¬ c < 0 ∧ ¬ 1 < c) ∧ 48 < dl ∧ dl2 = dl ∧ P2) ∨ ((¬ c < 0 ∧ ¬ 1 < c) ∧ dl ≤ 48 ∧ dl2 = 0 ∧ P3)) : RD dl2 gD zd := by
  rcases rl with ⟨-, r, -⟩ | ⟨-, -, r, -⟩ | ⟨-, -, r, -⟩
  · rw [r]; exact J
  · rw [r]; exact J
  · rw [r]; exact fun j hj => absurd hj (Nat.not_lt_zero _)
/-! TIER F: the entries of the rows -/
def RC (dl : Nat) (gD : Nat → Int32) : Prop := ∀ j, j < dl → ∃ c, c < 128 ∧ gD j = nI c
theorem RC.zero {gD : Nat → Int32} : RC 0 gD := fun j hj => absurd hj (Nat.not_lt_zero _)
theorem tkE_eq {a b : Nat → Int32} {n : Nat} (h : ∀ j, j < n → a j = b j) (s s2 : Nat) : tkE a n s s2 ↔ tkE b n s s2 := by
  unfold tkE
  rw [tkL_eq h s, tkL_eq h s2]
  exact ⟨fun ⟨q1, q2⟩ => ⟨q1, fun k hk => by rw [← tkC_eq h s k, ← tkC_eq h s2 k]; exact q2 k hk⟩, fun ⟨q1, q2⟩ => ⟨q1, fun k hk => by rw [tkC_eq h s k, tkC_eq h s2 k]; exact q2 k hk⟩⟩
theorem tkD_eq {a b : Nat → Int32} {n : Nat} (h : ∀ j, j < n → a j = b j) : ∀ s, tkD a n s = tkD b n s := by
  intro s
  induction s with
  | zero => rfl
  | succ s ih =>
    by_cases q : ∃ s2, s2 < s ∧ tkE b n s s2
    · rw [tkD_y q, tkD_y (q.imp (fun x hx => ⟨hx.1, (tkE_eq h s x).mpr hx.2⟩))]
      exact ih
    · rw [tkD_n q, tkD_n (fun z => q (z.imp (fun x hx => ⟨hx.1, (tkE_eq h s x).mp hx.2⟩))), ih]
noncomputable abbrev pkd (fp fq : Nat → Int32) (c : Nat) : Nat := tkD (fun i => fp (48 * c + i)) (fq c).toNatClampNeg (tokN (fun i => fp (48 * c + i)) (fq c).toNatClampNeg)
theorem pkd_eq {fp fq fp' fq' : Nat → Int32} {c c' n : Nat} (e1 : fq' c' = nI n) (e2 : fq c = nI n) (hn : n ≤ 48) (h : ∀ i, i < n → fp' (48 * c' + i) = fp (48 * c + i)) : pkd fp' fq' c' = pkd fp fq c := by
  show tkD (fun i => fp' (48 * c' + i)) (fq' c').toNatClampNeg (tokN (fun i => fp' (48 * c' + i)) (fq' c').toNatClampNeg) = tkD (fun i => fp (48 * c + i)) (fq c).toNatClampNeg (tokN (fun i => fp (48 * c + i)) (fq c).toNatClampNeg)
  rw [e1, e2, nI_clamp (by omega)]
  have hl : ∀ j, j < n → (fun i => fp' (48 * c' + i)) j = (fun i => fp (48 * c + i)) j := h
  rw [tkD_eq hl, tokN_eq hl]
theorem tkS2_two (ft fz : Nat → Int32) (r : Nat) : tkS2 ft fz r 2 = 0 + tkD (fun j => ft (96 * r + 48 * 0 + j)) (fz (2 * r + 0)).toNatClampNeg (tokN (fun j => ft (96 * r + 48 * 0 + j)) (fz (2 * r + 0)).toNatClampNeg) + tkD (fun j => ft (96 * r + 48 * 1 + j)) (fz (2 * r + 1)).toNatClampNeg (tokN (fun j => ft (96 * r + 48 * 1 + j)) (fz (2 * r + 1)).toNatClampNeg) := rfl
theorem tkS2_pk {fp fq ft fz ft' fz' : Nat → Int32} {r : Nat} (hq : ∀ c, c < 2 → ∃ n, fq c = nI n ∧ n ≤ 48) (T : TxG fp fq ft fz r ft' fz') : tkS2 ft' fz' r 2 = pkd fp fq 0 + pkd fp fq 1 := by
  have e : ∀ c, c < 2 → tkD (fun j => ft' (96 * r + 48 * c + j)) (fz' (2 * r + c)).toNatClampNeg (tokN (fun j => ft' (96 * r + 48 * c + j)) (fz' (2 * r + c)).toNatClampNeg) = pkd fp fq c := fun c hc => by
    obtain ⟨n, hn, hn2⟩ := hq c hc
    show _ = tkD (fun i => fp (48 * c + i)) (fq c).toNatClampNeg (tokN (fun i => fp (48 * c + i)) (fq c).toNatClampNeg)
    rw [T.2.2.1 c hc, hn, nI_clamp (by omega)]
    have hl : ∀ j, j < n → (fun j => ft' (96 * r + 48 * c + j)) j = (fun i => fp (48 * c + i)) j := fun j hj => T.1 c hc j (by omega)
    rw [tkD_eq hl, tokN_eq hl]
  rw [tkS2_two, e 0 (by omega), e 1 (by omega), Nat.zero_add]
def RQ (A : List Nat) (h : xw_A) (gP gQ : Nat) (fp fq : Nat → Int32) : Prop := DiA A h gP (pkd fp fq 0) ∧ DiA A h gQ (pkd fp fq 1)
theorem RQ.fr {A B : List Nat} {h h' : xw_A} {gP gQ : Nat} {fp fq : Nat → Int32} (k : RQ A h gP gQ fp fq) (r : FrO B h h') (hB : ∀ q ∈ B, q ∈ A) : RQ A h' gP gQ fp fq := ⟨k.1.fr r hB, k.2.fr r hB⟩
/-- each row's version has the entries that the reference has noted -/
def RV (A : List Nat) (h : xw_A) (gR : Nat → Option Nat) (zv ze : Nat → Int32) : Prop := ∀ j, j < 24 → ∀ a, gR (j + 1) = some a → a ∉ A ∧ ∃ (vn vr : Int32) (p q : Nat), h a = some (.inr (10, [.int vn, .int vr, .ref p, .ref q, .int (ze (zv j).toNatClampNeg)]))
theorem RV.fr {A B : List Nat} {h h' : xw_A} {gR : Nat → Option Nat} {zv ze : Nat → Int32} (k : RV A h gR zv ze) (r : FrO B h h') (hB : ∀ q ∈ B, q ∈ A) : RV A h' gR zv ze := fun j hj a ha => by
  obtain ⟨h0, vn, vr, p, q, e⟩ := k j hj a ha
  exact ⟨h0, vn, vr, p, q, r _ _ (fun q => h0 (hB _ q)) e⟩
theorem RV.sub {A : List Nat} {h : xw_A} {gR gR2 : Nat → Option Nat} {zv zv2 ze : Nat → Int32} (k : RV A h gR zv ze) (hs : ∀ j, j < 24 → ∀ a, gR2 (j + 1) = some a → gR (j + 1) = some a ∧ zv2 j = zv j) : RV A h gR2 zv2 ze := fun j hj a ha => by
  obtain ⟨h1, h2⟩ := hs j hj a ha
  rw [h2]
  exact k j hj a h1
/-! TIER G: the store's lists and the reference's arrays between two calls -/
def oldF (fo : Nat → Int32) (ov : Nat) (v : Nat) : Int32 := if v < ov then fo v else -1
/-- the saved lists, if a transaction is open -/
def RO (g gH : GT5) (zo : Nat) (zu ze fL : Nat → Int32) (md : Nat) (W : Nat → VT) (fo fw : Nat → Int32) (ov os : Nat) : Prop := zo = 1 → ov ≤ g.2.2.2.1 ∧ sumE gH.2.1 ≤ 200 ∧ RG g.2.2.2.1 md W ze zu (oldF fo ov) fw fL os gH.1 gH.2.1 gH.2.2.1
def RY (m lies_ row_ level_ oldLies_ oldRow_ : Nat) (g gH : GT5) (k : Nat × Nat) (zo : Nat) (zv zu ze : Nat → Int32) (h : xw_A) : Prop := (k.1 ≤ 9 ∧ k.2 ≤ 200 ∧ Rf m 1 (.int (nI k.1)) h ∧ Rf m 2 (.int (nI k.2)) h) ∧ (g.2.2.2.1 < 600 ∧ Rf m 15 (.int (nI g.2.2.2.1)) h) ∧ ∃ (X : RSt) (W : Nat → VT) (fo fw : Nat → Int32) (ov os : Nat), SgC m lies_ row_ level_ X h ∧ OgC m oldLies_ oldRow_ fo fw ov os h ∧ g.2.2.2.2 = X.2.2.2.1 ∧ RG g.2.2.2.1 X.2.2.2.1 W ze zv X.1 X.2.1 X.2.2.1 X.2.2.2.2 g.1 g.2.1 g.2.2.1 ∧ sumE g.2.1 ≤ 200 ∧ RO g gH zo zu ze X.2.2.1 X.2.2.2.1 W fo fw ov os
theorem SgC.to {m lies_ row_ level_ : Nat} {X : RSt} {E B : List Nat} {h h' : xw_A} (k : SgC m lies_ row_ level_ X h) (r : FrO B h h') (ff : FF m E h h') (n : lies_ ∉ B ∧ row_ ∉ B ∧ level_ ∉ B) (e : 16 ∉ E ∧ 19 ∉ E) : SgC m lies_ row_ level_ X h' := ⟨r _ _ n.1 k.1, r _ _ n.2.1 k.2.1, r _ _ n.2.2 k.2.2.1, k.2.2.2.1.ff ff e.1, k.2.2.2.2.1.ff ff e.2, k.2.2.2.2.2⟩
theorem OgC.to {m oldLies_ oldRow_ ov os : Nat} {fo fw : Nat → Int32} {E B : List Nat} {h h' : xw_A} (k : OgC m oldLies_ oldRow_ fo fw ov os h) (r : FrO B h h') (ff : FF m E h h') (n : oldLies_ ∉ B ∧ oldRow_ ∉ B) (e : 26 ∉ E ∧ 27 ∉ E) : OgC m oldLies_ oldRow_ fo fw ov os h' := ⟨r _ _ n.1 k.1, r _ _ n.2 k.2.1, k.2.2.1.ff ff e.1, k.2.2.2.1.ff ff e.2, k.2.2.2.2⟩
/-- the class alone has done something -/
theorem RY.fr {m lies_ row_ level_ oldLies_ oldRow_ : Nat} {g gH : GT5} {k : Nat × Nat} {zo : Nat} {zv zu ze : Nat → Int32} {B : List Nat} {h h' : xw_A} (Y : RY m lies_ row_ level_ oldLies_ oldRow_ g gH k zo zv zu ze h) (r : FrO B h h') (n : m ∉ B ∧ lies_ ∉ B ∧ row_ ∉ B ∧ level_ ∉ B ∧ oldLies_ ∉ B ∧ oldRow_ ∉ B) : RY m lies_ row_ level_ oldLies_ oldRow_ g gH k zo zv zu ze h' := by
  obtain ⟨⟨a1, a2, a3, a4⟩, ⟨b1, b2⟩, X, W, fo, fw, ov, os, ⟨c1, c2, c3, c4, c5, c6⟩, ⟨d1, d2, d3, d4, d5⟩, rest⟩ := Y
  exact ⟨⟨a1, a2, a3.fr r n.1, a4.fr r n.1⟩, ⟨b1, b2.fr r n.1⟩, X, W, fo, fw, ov, os, ⟨r _ _ n.2.1 c1, r _ _ n.2.2.1 c2, r _ _ n.2.2.2.1 c3, c4.fr r n.1, c5.fr r n.1, c6⟩, ⟨r _ _ n.2.2.2.2.1 d1, r _ _ n.2.2.2.2.2 d2, d3.fr r n.1, d4.fr r n.1, d5⟩, rest⟩
/-- a call that leaves the reference's segments -/
theorem RY.keep {m lies_ row_ level_ oldLies_ oldRow_ : Nat} {g gH : GT5} {k : Nat × Nat} {zo : Nat} {zv zu ze : Nat → Int32} {E B : List Nat} {h h' : xw_A} (Y : RY m lies_ row_ level_ oldLies_ oldRow_ g gH k zo zv zu ze h) (r : FrO B h h') (ff : FF m E h h') (n : (lies_ ∉ B ∧ row_ ∉ B ∧ level_ ∉ B) ∧ oldLies_ ∉ B ∧ oldRow_ ∉ B) (e : 1 ∉ E ∧ 2 ∉ E ∧ 15 ∉ E ∧ (16 ∉ E ∧ 19 ∉ E) ∧ 26 ∉ E ∧ 27 ∉ E) : RY m lies_ row_ level_ oldLies_ oldRow_ g gH k zo zv zu ze h' := by
  obtain ⟨⟨a1, a2, a3, a4⟩, ⟨b1, b2⟩, X, W, fo, fw, ov, os, c, d, rest⟩ := Y
  exact ⟨⟨a1, a2, a3.ff ff e.1, a4.ff ff e.2.1⟩, ⟨b1, b2.ff ff e.2.2.1⟩, X, W, fo, fw, ov, os, c.to r ff n.1 e.2.2.2.1, d.to r ff n.2 e.2.2.2.2, rest⟩
theorem way_Y {m lies_ row_ level_ oldLies_ oldRow_ : Nat} {g gH : GT5} {k k2 : Nat × Nat} {zo : Nat} {zv zu ze : Nat → Int32} {E B : List Nat} {h h' : xw_A} (Y : RY m lies_ row_ level_ oldLies_ oldRow_ g gH k zo zv zu ze h) (r : FrO B h h') (ff : FF m E h h') (n : (lies_ ∉ B ∧ row_ ∉ B ∧ level_ ∉ B) ∧ oldLies_ ∉ B ∧ oldRow_ ∉ B) (e : 15 ∉ E ∧ (16 ∉ E ∧ 19 ∉ E) ∧ 26 ∉ E ∧ 27 ∉ E) (hk : k2.1 ≤ 9 ∧ k2.2 ≤ 200 ∧ Rf m 1 (.int (nI k2.1)) h' ∧ Rf m 2 (.int (nI k2.2)) h') : RY m lies_ row_ level_ oldLies_ oldRow_ g gH k2 zo zv zu ze h' := by
  obtain ⟨-, ⟨b1, b2⟩, X, W, fo, fw, ov, os, c, d, rest⟩ := Y
  exact ⟨hk, ⟨b1, b2.ff ff e.1⟩, X, W, fo, fw, ov, os, c.to r ff n.1 e.2.1, d.to r ff n.2 e.2.2, rest⟩
theorem SgC.md {m lies_ row_ level_ : Nat} {X : RSt} {h : xw_A} (k : SgC m lies_ row_ level_ X h) : X.2.2.2.1 < 1300 := k.2.2.2.2.2.1
theorem rg_len {nv md sg : Nat} {W : Nat → VT} {fe fv fi fr fL : Nat → Int32} {R : Nat → Option VT} {P : List VT} {S : List SG} (G : RG nv md W fe fv fi fr fL sg R P S) : S.length = sg := by rw [← Pr2.len G.2.2.2.1, tb_len]
theorem rgl_len {nv : Nat} {W : Nat → VT} {fi : Nat → Int32} {x : Int32} {L : List VT} (h : RgL nv W fi x L) : L.length ≤ sumE L := by
  have : ∀ M : List VT, (∀ t ∈ M, 0 < t.2.2) → M.length ≤ sumE M := by
    intro M
    induction M with
    | nil => intro _; exact Nat.le_refl _
    | cons t M ih =>
      intro q
      have h0 := q t List.mem_cons_self
      have h1 := ih (fun u hu => q u (List.mem_cons_of_mem _ hu))
      simp only [sumE, List.length_cons]
      omega
  exact this L (fun t ht => by obtain ⟨v, -, rfl, -, q⟩ := (h.2 t).mp ht; exact q)
/-- a row gets a new version -/
theorem put_Y {m lies_ row_ level_ oldLies_ oldRow_ entries_ live_ gP gQ : Nat} {g g2 gH : GT5} {k : Nat × Nat} {zo : Nat} {zv zu ze zv2 ze2 : Nat → Int32} {A : List Nat} {gR gR2 : Nat → Option Nat} {h1 h2 : xw_A} {rel : Nat → Prop} {rel2 : Nat → Nat → Prop} (Y : RY m lies_ row_ level_ oldLies_ oldRow_ g gH k zo zv zu ze h1) (hsg : ∀ X : RSt, SgC m lies_ row_ level_ X h1 → X.2.2.2.2 < 512) (hnv : g.2.2.2.1 < 599)
    (rl : (gR2 = gR ∧ Rf m 0 (.int 1) h2) ∨ ∃ (c a : Nat) (nn : Int32) (yN : Nat), gR2 = va_up gR c (some a) ∧ Rf m 0 (.int 0) h2 ∧ (∀ r, r < 24 → rel r → c = r + 1) ∧ h2 a = some (.inr (10, [.int nn, .int (nI c), .ref gP, .ref gQ, .int (nI yN)])) ∧ yN < 1000 ∧ GvG g k c yN g2) (rG : Rf m 0 (.int 1) h2 → g2 = g)
    (md : ∀ (X : RSt) (nv mo li : Nat) (fe fv : Nat → Int32), SgC m lies_ row_ level_ X h1 → Rf m 15 (.int (nI nv)) h1 → nv < 600 → Rf m 1 (.int (nI mo)) h1 → mo ≤ 9 → Rf m 2 (.int (nI li)) h1 → li ≤ 200 → h1 entries_ = some (.inl (0, 600, .inl fe)) → h1 live_ = some (.inl (0, 24, .inl fv)) → (Rf m 0 (.int 1) h2 ∧ SgC m lies_ row_ level_ X h2 ∧ Rf m 15 (.int (nI nv)) h2) ∨ (Rf m 0 (.int 0) h2 ∧ ∃ (r y : Nat) (Z : RSt), r < 24 ∧ rel2 r y ∧ h2 live_ = some (.inl (0, 24, .inl (upd fv r (nI nv)))) ∧ h2 entries_ = some (.inl (0, 600, .inl (upd fe nv (nI y)))) ∧ Rf m 15 (.int (nI (nv + 1))) h2 ∧ SgC m lies_ row_ level_ Z h2 ∧ GtS (upd fe nv (nI y)) (upd fv r (nI nv)) nv mo li X Z))
    (hrel : ∀ r y, rel2 r y → rel r) (xV : RV A h2 gR2 zv2 ze2) (ee : h1 entries_ = some (.inl (0, 600, .inl ze))) (el : h1 live_ = some (.inl (0, 24, .inl zv))) (ee2 : h2 entries_ = some (.inl (0, 600, .inl ze2))) (el2 : h2 live_ = some (.inl (0, 24, .inl zv2))) (sme : Rf m 0 (.int 1) h2 → ze2 = ze ∧ zv2 = zv)
    (d2 : ∀ (fo fw : Nat → Int32) (ov os : Nat), OgC m oldLies_ oldRow_ fo fw ov os h1 → OgC m oldLies_ oldRow_ fo fw ov os h2) (k1 : Rf m 1 (.int (nI k.1)) h2) (k2 : Rf m 2 (.int (nI k.2)) h2) : RY m lies_ row_ level_ oldLies_ oldRow_ g2 gH k zo zv2 zu ze2 h2 := by
  obtain ⟨⟨a1, a2, a3, a4⟩, ⟨b1, b2⟩, X, W, fo, fw, ov, os, c, d, hns, G, hP, O⟩ := Y
  have hX := hsg X c
  have hmd := c.md
  rcases md X g.2.2.2.1 k.1 k.2 ze zv c b2 b1 a3 a1 a4 a2 ee el with ⟨e1, c2, b3⟩ | ⟨e0, r, y, Z, hr, hq, el3, ee3, b3, c3, gt⟩
  · obtain rfl := rG e1
    obtain ⟨rfl, rfl⟩ := sme e1
    exact ⟨⟨a1, a2, k1, k2⟩, ⟨b1, b3⟩, X, W, fo, fw, ov, os, c2, d2 _ _ _ _ d, hns, G, hP, O⟩
  · rcases rl with ⟨-, e1⟩ | ⟨cc, a, nn, yN, rfl, -, hc, ea, hyN, P2, S2, n2, gv, rfl⟩
    · exact absurd (Value.int.inj (e0.inj e1)) (by decide)
    · obtain rfl := hc r hr (hrel r y hq)
      obtain rfl := cinj el2 el3
      obtain rfl := cinj ee2 ee3
      have hy : nI y = nI yN := by
        obtain ⟨-, vn, vr, p, q, e9⟩ := xV r hr a (va_up_self _ _ _)
        have e8 := e9.symm.trans ea
        simp only [Option.some.injEq, Sum.inr.injEq, Prod.mk.injEq, List.cons.injEq, Value.int.injEq, Value.ref.injEq, true_and, and_true] at e8
        have e7 := e8.2.2.2.2
        rw [pk_us, nI_clamp (by omega), pk_us] at e7
        exact e7
      rw [hy] at gt ⊢
      have hPl : g.2.1.length < 201 := by have := rgl_len G.2.2.1; omega
      have hSl := rg_len G
      have G2 := put_rel (r := r) (y := yN) G (by omega) (by omega) hr hyN hPl
      have O2 : ∀ {fL2 : Nat → Int32} {md2 : Nat}, X.2.2.2.1 ≤ md2 → (∀ s, s < X.2.2.2.1 → fL2 s = X.2.2.1 s) → RO (va_up g.1 (r + 1) (some (g.2.2.2.1, r + 1, yN)), P2, S2, g.2.2.2.1 + 1, n2) gH zo zu (upd ze g.2.2.2.1 (nI yN)) fL2 md2 (fun v => if v = g.2.2.2.1 then (g.2.2.2.1, r + 1, yN) else W v) fo fw ov os := fun h5 h6 hz => by
        obtain ⟨o1, o2, o3⟩ := O hz
        exact ⟨Nat.le_succ_of_le o1, o2, (o3.oldput (by omega) (by omega) hr hyN (if_neg (by omega))).later h5 (by omega) h6⟩
      have ps := pnd_rel G2.1 G2.2.2.1
      have hsl : sumE (putP g.2.1 (g.2.2.2.1, r + 1, yN)) < 2 ^ 31 := by
        rw [putP]
        split
        · rw [sumE_app]
          simp only [sumE]
          omega
        · omega
      have b4 : g.2.2.2.1 + 1 < 600 := by omega
      rcases gt with ⟨t1, rfl⟩ | ⟨t1, t2⟩
      · rw [ps] at t1
        have t3 : ¬ k.2 < sumE (putP g.2.1 (g.2.2.2.1, r + 1, yN)) := fun q => t1 (nI_lt q hsl)
        rcases gv with ⟨u1, -⟩ | ⟨-, rfl, rfl, rfl⟩
        · exact absurd u1 t3
        · exact ⟨⟨a1, a2, k1, k2⟩, ⟨b4, b3⟩, _, _, fo, fw, ov, os, c3, d2 _ _ _ _ d, hns, G2, (by show sumE (putP g.2.1 (g.2.2.2.1, r + 1, yN)) ≤ 200; omega), O2 (Nat.le_refl _) (fun _ _ => rfl)⟩
      · rw [ps] at t1
        have t3 : k.2 < sumE (putP g.2.1 (g.2.2.2.1, r + 1, yN)) := (nI_ltI (by omega) hsl).mp t1
        obtain ⟨f1, f2, f3⟩ := flu_rel (X := (upd X.1 g.2.2.2.1 (-2), X.2.1, X.2.2.1, X.2.2.2.1, X.2.2.2.2)) (by omega) G2 (by dsimp only; omega) (by omega) t2
        obtain ⟨f4, f5⟩ := flu_old t2
        dsimp only at f1 f2
        rw [← hns] at f1 f2
        unfold GvR at gv
        generalize fluS (va_up g.1 (r + 1) (some (g.2.2.2.1, r + 1, yN))) k.1 (putP g.2.1 (g.2.2.2.1, r + 1, yN)) g.2.2.1 g.2.2.2.2 = y at gv f1 f2
        rcases gv with ⟨-, rfl, rfl, rfl⟩ | ⟨u1, -⟩
        · exact ⟨⟨a1, a2, k1, k2⟩, ⟨b4, b3⟩, Z, _, fo, fw, ov, os, c3, d2 _ _ _ _ d, f1.symm, f2, Nat.zero_le _, O2 f4 f5⟩
        · exact absurd t3 u1
theorem del_Y {m lies_ row_ level_ oldLies_ oldRow_ live_ : Nat} {g g2 gH : GT5} {k : Nat × Nat} {zo : Nat} {zv zu ze zv2 : Nat → Int32} {x : Int32} {h2 : xw_A} (Y : RY m lies_ row_ level_ oldLies_ oldRow_ g gH k zo zv zu ze h2) (rG : (Rf m 0 (.int 1) h2 → g2 = g) ∧ (Rf m 0 (.int 0) h2 → ∀ j, 1 ≤ j → j ≤ 24 → x = nI j → g2 = (va_up g.1 j none, g.2)))
    (md : (∃ j : Nat, j < 24 ∧ x = nI (j + 1) ∧ ¬ zv j < 0 ∧ Rf m 0 (.int 0) h2 ∧ h2 live_ = some (.inl (0, 24, .inl (upd zv j (-1))))) ∨ ((∀ j, j < 24 → x = nI (j + 1) → zv j < 0) ∧ Rf m 0 (.int 1) h2 ∧ h2 live_ = some (.inl (0, 24, .inl zv)))) (el2 : h2 live_ = some (.inl (0, 24, .inl zv2))) : RY m lies_ row_ level_ oldLies_ oldRow_ g2 gH k zo zv2 zu ze h2 := by
  rcases md with ⟨j, hj, hx, -, e0, el3⟩ | ⟨-, e1, el3⟩
  · obtain rfl := cinj el2 el3
    obtain rfl := rG.2 e0 (j + 1) (by omega) (by omega) hx
    obtain ⟨a, b, X, W, fo, fw, ov, os, c, d, hns, G, hP, O⟩ := Y
    exact ⟨a, b, X, W, fo, fw, ov, os, c, d, hns, del_rel G, hP, O⟩
  · obtain rfl := cinj el2 el3
    obtain rfl := rG.1 e1
    exact Y
theorem flu_Y {m lies_ row_ level_ oldLies_ oldRow_ : Nat} {g gH : GT5} {k : Nat × Nat} {zo : Nat} {zv zu ze : Nat → Int32} {h1 h2 : xw_A} (Y : RY m lies_ row_ level_ oldLies_ oldRow_ g gH k zo zv zu ze h1) (hsg : ∀ X : RSt, SgC m lies_ row_ level_ X h1 → X.2.2.2.2 < 512)
    (md : ∀ X : RSt, SgC m lies_ row_ level_ X h1 → ∃ Z : RSt, SgC m lies_ row_ level_ Z h2 ∧ FluS ze zv g.2.2.2.1 k.1 X Z) (d2 : ∀ (fo fw : Nat → Int32) (ov os : Nat), OgC m oldLies_ oldRow_ fo fw ov os h1 → OgC m oldLies_ oldRow_ fo fw ov os h2) (k1 : Rf m 1 (.int (nI k.1)) h2) (k2 : Rf m 2 (.int (nI k.2)) h2) (k3 : Rf m 15 (.int (nI g.2.2.2.1)) h2) :
    RY m lies_ row_ level_ oldLies_ oldRow_ (flG g k) gH k zo zv zu ze h2 ∧ ∀ X Z : RSt, SgC m lies_ row_ level_ X h1 → SgC m lies_ row_ level_ Z h2 → (flG g k).2.2.1.length = Z.2.2.2.2 := by
  obtain ⟨⟨a1, a2, a3, a4⟩, ⟨b1, b2⟩, X, W, fo, fw, ov, os, c, d, hns, G, hP, O⟩ := Y
  have hX := hsg X c
  have hmd := c.md
  obtain ⟨Z, c3, t2⟩ := md X c
  have hSl := rg_len G
  obtain ⟨f1, f2, f3⟩ := flu_rel (by omega) G (by omega) (by omega) t2
  obtain ⟨f4, f5⟩ := flu_old t2
  rw [← hns] at f1 f2
  have e9 : flG g k = (g.1, [], (fluS g.1 k.1 g.2.1 g.2.2.1 g.2.2.2.2).1, g.2.2.2.1, (fluS g.1 k.1 g.2.1 g.2.2.1 g.2.2.2.2).2) := rfl
  rw [e9]
  generalize fluS g.1 k.1 g.2.1 g.2.2.1 g.2.2.2.2 = y at f1 f2 ⊢
  refine ⟨⟨⟨a1, a2, k1, k2⟩, ⟨b1, k3⟩, Z, W, fo, fw, ov, os, c3, d2 _ _ _ _ d, f1.symm, f2, Nat.zero_le _, fun hz => ?_⟩, fun X2 Z2 q1 q2 => ?_⟩
  · obtain ⟨o1, o2, o3⟩ := O hz
    exact ⟨o1, o2, o3.later f4 (by omega) f5⟩
  · have e : Z2 = Z := by
      obtain ⟨z1, z2, z3, z4, z5⟩ := Z2
      obtain ⟨y1, y2, y3, y4, y5⟩ := Z
      obtain ⟨u1, u2, u3, u4, u5, u6, u7⟩ := q2
      obtain ⟨w1, w2, w3, w4, w5, w6, w7⟩ := c3
      dsimp only at u1 u2 u3 u4 u5 u6 u7 w1 w2 w3 w4 w5 w6 w7
      obtain rfl := cinj u1 w1
      obtain rfl := cinj u2 w2
      obtain rfl := cinj u3 w3
      obtain rfl : z4 = y4 := (nI_eq (by omega) (by omega)).mp (Value.int.inj (u4.inj w4))
      obtain rfl : z5 = y5 := (nI_eq (by omega) (by omega)).mp (Value.int.inj (u5.inj w5))
      rfl
    rw [e]
    exact rg_len f2
theorem opt_Y {m lies_ row_ level_ oldLies_ oldRow_ : Nat} {g gH : GT5} {k : Nat × Nat} {zo : Nat} {zv zu ze : Nat → Int32} {h1 h2 : xw_A} (Y : RY m lies_ row_ level_ oldLies_ oldRow_ g gH k zo zv zu ze h1)
    (md : ∀ X : RSt, SgC m lies_ row_ level_ X h1 → (X.2.2.2.2 = 0 ∧ SgC m lies_ row_ level_ X h2) ∨ ∃ Z : RSt, SgC m lies_ row_ level_ Z h2 ∧ GaS ze zv (-1) (hiE X.2.2.1 X.2.1 X.2.2.2.2) g.2.2.2.1 X Z) (d2 : ∀ (fo fw : Nat → Int32) (ov os : Nat), OgC m oldLies_ oldRow_ fo fw ov os h1 → OgC m oldLies_ oldRow_ fo fw ov os h2) (k1 : Rf m 1 (.int (nI k.1)) h2) (k2 : Rf m 2 (.int (nI k.2)) h2) (k3 : Rf m 15 (.int (nI g.2.2.2.1)) h2) :
    RY m lies_ row_ level_ oldLies_ oldRow_ (opG g) gH k zo zv zu ze h2 := by
  obtain ⟨⟨a1, a2, a3, a4⟩, ⟨b1, b2⟩, X, W, fo, fw, ov, os, c, d, hns, G, hP, O⟩ := Y
  have hmd := c.md
  have hSl := rg_len G
  rcases md X c with ⟨h0, c2⟩ | ⟨Z, c3, gs⟩
  · have e : g.2.2.1 = [] := List.eq_nil_of_length_eq_zero (by omega)
    have e2 : opG g = g := by
      unfold opG
      rw [e]
      show (g.1, g.2.1, ([] : List SG), g.2.2.2.1, g.2.2.2.2) = g
      rw [← e]
    rw [e2]
    exact ⟨⟨a1, a2, k1, k2⟩, ⟨b1, k3⟩, X, W, fo, fw, ov, os, c2, d2 _ _ _ _ d, hns, G, hP, O⟩
  · obtain ⟨f4, f5⟩ := ga_old gs
    obtain ⟨dl, lf, hdl, e1, e2, gv⟩ := gs
    obtain ⟨hh, h5⟩ := hiE_rel G _ (Nat.le_refl _)
    rw [List.take_of_length_le (by omega)] at hh h5
    rw [hh] at gv
    obtain ⟨p1, p2⟩ := ga_all G (by omega) (by omega) hdl h5 gv
    rw [← e1, ← hns] at p1
    rw [← e1, ← e2] at p2
    have e9 : opG g = (g.1, g.2.1, mrgS g.1 0 5 (hiL g.2.2.1 0) g.2.2.1, g.2.2.2.1, mrgN g.1 0 5 g.2.2.1 g.2.2.2.2) := rfl
    rw [e9]
    generalize mrgS g.1 0 5 (hiL g.2.2.1 0) g.2.2.1 = y at p2 ⊢
    generalize mrgN g.1 0 5 g.2.2.1 g.2.2.2.2 = z at p1 ⊢
    refine ⟨⟨a1, a2, k1, k2⟩, ⟨b1, k3⟩, Z, W, fo, fw, ov, os, c3, d2 _ _ _ _ d, p1.symm, p2, hP, fun hz => ?_⟩
    obtain ⟨o1, o2, o3⟩ := O hz
    exact ⟨o1, o2, o3.later f4 (by omega) f5⟩
theorem RY.zo0 {m lies_ row_ level_ oldLies_ oldRow_ : Nat} {g gH : GT5} {k : Nat × Nat} {zo : Nat} {zv zu ze : Nat → Int32} {h : xw_A} (Y : RY m lies_ row_ level_ oldLies_ oldRow_ g gH k zo zv zu ze h) : RY m lies_ row_ level_ oldLies_ oldRow_ g gH k 0 zv zu ze h := by
  obtain ⟨a, b, X, W, fo, fw, ov, os, c, d, hns, G, hP, O⟩ := Y
  exact ⟨a, b, X, W, fo, fw, ov, os, c, d, hns, G, hP, fun q => absurd q (by decide)⟩
theorem beg_Y {m lies_ row_ level_ oldLies_ oldRow_ live_ oldLive_ : Nat} {g gH gH2 : GT5} {k : Nat × Nat} {zo zo2 : Nat} {zv zu ze zu2 : Nat → Int32} {h1 h2 : xw_A} {Q2 Q4 : Prop} (Y : RY m lies_ row_ level_ oldLies_ oldRow_ g gH k zo zv zu ze h1) (c2 : ∀ X : RSt, SgC m lies_ row_ level_ X h1 → SgC m lies_ row_ level_ X h2) (k1 : Rf m 1 (.int (nI k.1)) h2) (k2 : Rf m 2 (.int (nI k.2)) h2) (k3 : Rf m 15 (.int (nI g.2.2.2.1)) h2)
    (md : (zo = 1 ∧ Rf m 0 (.int 1) h2 ∧ Q2 ∧ ∀ fov : Nat → Int32, h1 oldLive_ = some (.inl (0, 24, .inl fov)) → h2 oldLive_ = some (.inl (0, 24, .inl fov))) ∨ (zo = 0 ∧ Rf m 0 (.int 0) h2 ∧ Q4 ∧ ∀ fv : Nat → Int32, h1 live_ = some (.inl (0, 24, .inl fv)) → ∃ fov : Nat → Int32, h2 oldLive_ = some (.inl (0, 24, .inl fov)) ∧ ∀ k, k < 24 → fov k = fv k))
    (md2 : ∀ (X : RSt) (nv : Nat) (fo fw : Nat → Int32) (ov os : Nat), SgC m lies_ row_ level_ X h1 → Rf m 15 (.int (nI nv)) h1 → nv < 600 → OgC m oldLies_ oldRow_ fo fw ov os h1 → (Rf m 0 (.int 1) h2 ∧ OgC m oldLies_ oldRow_ fo fw ov os h2) ∨ (Rf m 0 (.int 0) h2 ∧ ∃ fo' fw' : Nat → Int32, OgC m oldLies_ oldRow_ fo' fw' nv X.2.2.2.2 h2 ∧ (∀ k, k < 600 → fo' k = X.1 k) ∧ ∀ k, k < 600 → fw' k = X.2.1 k))
    (rG : (Rf m 0 (.int 1) h2 → gH2 = gH) ∧ (Rf m 0 (.int 0) h2 → gH2 = (g.1, g.2.1, g.2.2.1, gH.2.2.2))) (el : h1 live_ = some (.inl (0, 24, .inl zv))) (eu : h1 oldLive_ = some (.inl (0, 24, .inl zu))) (eu2 : h2 oldLive_ = some (.inl (0, 24, .inl zu2))) : RY m lies_ row_ level_ oldLies_ oldRow_ g gH2 k zo2 zv zu2 ze h2 := by
  obtain ⟨⟨a1, a2, a3, a4⟩, ⟨b1, b2⟩, X, W, fo, fw, ov, os, c, d, hns, G, hP, O⟩ := Y
  have hsg := c.2.2.2.2.2.2
  rcases md with ⟨hz, e1, -, ho⟩ | ⟨hz, e0, -, ho⟩
  · obtain rfl := cinj eu2 (ho zu eu)
    obtain rfl := rG.1 e1
    rcases md2 X _ fo fw ov os c b2 b1 d with ⟨-, d2⟩ | ⟨e0, -⟩
    · exact ⟨⟨a1, a2, k1, k2⟩, ⟨b1, k3⟩, X, W, fo, fw, ov, os, c2 X c, d2, hns, G, hP, fun _ => O hz⟩
    · exact absurd (Value.int.inj (e0.inj e1)) (by decide)
  · obtain ⟨fov, eo, hfo⟩ := ho zv el
    obtain rfl := cinj eu2 eo
    obtain rfl := rG.2 e0
    rcases md2 X _ fo fw ov os c b2 b1 d with ⟨e1, -⟩ | ⟨-, fo2, fw2, d2, q1, q2⟩
    · exact absurd (Value.int.inj (e0.inj e1)) (by decide)
    · refine ⟨⟨a1, a2, k1, k2⟩, ⟨b1, k3⟩, X, W, fo2, fw2, _, _, c2 X c, d2, hns, G, hP, fun _ => ⟨Nat.le_refl _, hP, G.congr hfo (fun v hv => ?_) (fun j hj => q2 j (by omega))⟩⟩
      unfold oldF
      rw [if_pos hv]
      exact q1 v (by omega)
theorem rol_Y {m lies_ row_ level_ oldLies_ oldRow_ live_ oldLive_ : Nat} {g g2 gH : GT5} {k : Nat × Nat} {zo : Nat} {zv zu ze zv2 : Nat → Int32} {h1 h2 : xw_A} {Q2 Q4 : Prop} {Q5 : (Nat → Int32) → Prop} (Y : RY m lies_ row_ level_ oldLies_ oldRow_ g gH k zo zv zu ze h1) (d2 : ∀ (fo fw : Nat → Int32) (ov os : Nat), OgC m oldLies_ oldRow_ fo fw ov os h1 → OgC m oldLies_ oldRow_ fo fw ov os h2) (k1 : Rf m 1 (.int (nI k.1)) h2) (k2 : Rf m 2 (.int (nI k.2)) h2) (k3 : Rf m 15 (.int (nI g.2.2.2.1)) h2)
    (md : (zo = 0 ∧ Rf m 0 (.int 1) h2 ∧ Q2 ∧ ∀ fv : Nat → Int32, h1 live_ = some (.inl (0, 24, .inl fv)) → h2 live_ = some (.inl (0, 24, .inl fv))) ∨ (zo = 1 ∧ Rf m 0 (.int 0) h2 ∧ Q4 ∧ ∀ fov : Nat → Int32, h1 oldLive_ = some (.inl (0, 24, .inl fov)) → ∃ fv : Nat → Int32, h2 live_ = some (.inl (0, 24, .inl fv)) ∧ (∀ k, k < 24 → fv k = fov k) ∧ Q5 fv))
    (md2 : ∀ (X : RSt) (nv : Nat) (fo fw : Nat → Int32) (ov os : Nat), SgC m lies_ row_ level_ X h1 → Rf m 15 (.int (nI nv)) h1 → nv < 600 → OgC m oldLies_ oldRow_ fo fw ov os h1 → (Rf m 0 (.int 1) h2 ∧ SgC m lies_ row_ level_ X h2) ∨ (Rf m 0 (.int 0) h2 ∧ ∃ fi' fr' : Nat → Int32, SgC m lies_ row_ level_ (fi', fr', X.2.2.1, X.2.2.2.1, os) h2 ∧ (∀ k, k < 600 → (k < ov ∧ fi' k = fo k) ∨ (ov ≤ k ∧ fi' k = -1)) ∧ ∀ k, k < 600 → fr' k = fw k))
    (rG : (Rf m 0 (.int 1) h2 → g2 = g) ∧ (Rf m 0 (.int 0) h2 → g2 = (gH.1, gH.2.1, gH.2.2.1, g.2.2.2))) (el : h1 live_ = some (.inl (0, 24, .inl zv))) (eu : h1 oldLive_ = some (.inl (0, 24, .inl zu))) (el2 : h2 live_ = some (.inl (0, 24, .inl zv2))) : RY m lies_ row_ level_ oldLies_ oldRow_ g2 gH k 0 zv2 zu ze h2 := by
  obtain ⟨⟨a1, a2, a3, a4⟩, ⟨b1, b2⟩, X, W, fo, fw, ov, os, c, d, hns, G, hP, O⟩ := Y
  have hos := d.2.2.2.2.2
  rcases md with ⟨hz, e1, -, ho⟩ | ⟨hz, e0, -, ho⟩
  · obtain rfl := cinj el2 (ho zv el)
    obtain rfl := rG.1 e1
    rcases md2 X _ fo fw ov os c b2 b1 d with ⟨-, c2⟩ | ⟨e0, -⟩
    · exact ⟨⟨a1, a2, k1, k2⟩, ⟨b1, k3⟩, X, W, fo, fw, ov, os, c2, d2 _ _ _ _ d, hns, G, hP, fun q => absurd q (by decide)⟩
    · exact absurd (Value.int.inj (e0.inj e1)) (by decide)
  · obtain ⟨fv, eo, hfo, -⟩ := ho zu eu
    obtain rfl := cinj el2 eo
    obtain rfl := rG.2 e0
    obtain ⟨o1, o2, o3⟩ := O hz
    rcases md2 X _ fo fw ov os c b2 b1 d with ⟨e1, -⟩ | ⟨-, fi2, fr2, c2, q1, q2⟩
    · exact absurd (Value.int.inj (e0.inj e1)) (by decide)
    · refine ⟨⟨a1, a2, k1, k2⟩, ⟨b1, k3⟩, _, W, fo, fw, ov, os, c2, d2 _ _ _ _ d, hns, o3.congr hfo (fun v hv => ?_) (fun j hj => q2 j (by omega)), o2, fun q => absurd q (by decide)⟩
      dsimp only at hv ⊢
      unfold oldF
      rcases q1 v (by omega) with ⟨q3, q4⟩ | ⟨q3, q4⟩
      · rw [if_pos q3]; exact q4
      · rw [if_neg (by omega)]; exact q4
theorem com_Y {m lies_ row_ level_ oldLies_ oldRow_ entries_ live_ : Nat} {g g2 gH : GT5} {k : Nat × Nat} {zo : Nat} {zv zu ze : Nat → Int32} {h1 h2 : xw_A} {v : Option Value} (Y : RY m lies_ row_ level_ oldLies_ oldRow_ g gH k zo zv zu ze h1) (hsg : ∀ X : RSt, SgC m lies_ row_ level_ X h1 → X.2.2.2.2 < 512)
    (md : ∀ (X : RSt) (nv mo : Nat) (fe fv : Nat → Int32), SgC m lies_ row_ level_ X h1 → Rf m 15 (.int (nI nv)) h1 → nv < 600 → Rf m 1 (.int (nI mo)) h1 → mo ≤ 9 → h1 entries_ = some (.inl (0, 600, .inl fe)) → h1 live_ = some (.inl (0, 24, .inl fv)) → (Rf m 0 (.int 1) h2 ∧ SgC m lies_ row_ level_ X h2) ∨ (Rf m 0 (.int 0) h2 ∧ ∃ Z : RSt, SgC m lies_ row_ level_ Z h2 ∧ FluS fe fv nv mo X Z ∧ v = some (.int (nI Z.2.2.2.2))))
    (d2 : ∀ (fo fw : Nat → Int32) (ov os : Nat), OgC m oldLies_ oldRow_ fo fw ov os h1 → OgC m oldLies_ oldRow_ fo fw ov os h2) (k1 : Rf m 1 (.int (nI k.1)) h2) (k2 : Rf m 2 (.int (nI k.2)) h2) (k3 : Rf m 15 (.int (nI g.2.2.2.1)) h2) (rG : (Rf m 0 (.int 1) h2 → g2 = g) ∧ (Rf m 0 (.int 0) h2 → g2 = flG g k)) (ee : h1 entries_ = some (.inl (0, 600, .inl ze))) (el : h1 live_ = some (.inl (0, 24, .inl zv))) :
    RY m lies_ row_ level_ oldLies_ oldRow_ g2 gH k zo zv zu ze h2 ∧ (Rf m 0 (.int 0) h2 → v = some (.int (nI g2.2.2.1.length))) := by
  obtain ⟨⟨a1, a2, a3, a4⟩, ⟨b1, b2⟩, X, rest⟩ := id Y
  obtain ⟨W, fo, fw, ov, os, c, d, hns, G, hP, O⟩ := rest
  rcases md X _ _ ze zv c b2 b1 a3 a1 ee el with ⟨e1, c2⟩ | ⟨e0, Z, c3, t2, hv⟩
  · obtain rfl := rG.1 e1
    exact ⟨⟨⟨a1, a2, k1, k2⟩, ⟨b1, k3⟩, X, W, fo, fw, ov, os, c2, d2 _ _ _ _ d, hns, G, hP, O⟩, fun e0 => absurd (Value.int.inj (e0.inj e1)) (by decide)⟩
  · obtain rfl := rG.2 e0
    obtain ⟨Y2, hl⟩ := flu_Y Y hsg (fun X2 q => by
      rcases md X2 _ _ ze zv q b2 b1 a3 a1 ee el with ⟨e1, -⟩ | ⟨-, Z2, q1, q2, -⟩
      · exact absurd (Value.int.inj (e0.inj e1)) (by decide)
      · exact ⟨Z2, q1, q2⟩) d2 k1 k2 k3
    exact ⟨Y2, fun _ => by rw [hv, hl X Z c c3]⟩
theorem RG.zero {md : Nat} {W : Nat → VT} {fe fv fi fr fL : Nat → Int32} (h : ∀ r, r < 24 → fv r < 0) : RG 0 md W fe fv fi fr fL 0 (fun _ => none) [] [] := ⟨fun v hv => absurd hv (Nat.not_lt_zero _), fun r hr => Or.inl ⟨h r hr, rfl⟩, ⟨List.nodup_nil, fun t => ⟨(fun q => nomatch q), fun ⟨v, hv, _⟩ => absurd hv (Nat.not_lt_zero _)⟩⟩, trivial, List.nodup_nil, (fun x hx => nomatch hx), fun v hv => absurd hv (Nat.not_lt_zero _)⟩
def RX (A : List Nat) (m lies_ row_ level_ oldLies_ oldRow_ entries_ dl : Nat) (gD : Nat → Int32) (gP gQ : Nat) (gR gV : Nat → Option Nat) (gG gH : GT5) (gM : Nat × Nat) (zo : Nat) (zv zu zp zq : Nat → Int32) (h : xw_A) : Prop :=
  RC dl gD ∧ RQ A h gP gQ zp zq ∧ ∃ ze : Nat → Int32, h entries_ = some (.inl (0, 600, .inl ze)) ∧ RV A h gR zv ze ∧ (zo = 1 → RV A h gV zu ze) ∧ RY m lies_ row_ level_ oldLies_ oldRow_ gG gH gM zo zv zu ze h
theorem RX.fr {A B : List Nat} {m lies_ row_ level_ oldLies_ oldRow_ entries_ dl : Nat} {gD : Nat → Int32} {gP gQ : Nat} {gR gV : Nat → Option Nat} {gG gH : GT5} {gM : Nat × Nat} {zo : Nat} {zv zu zp zq : Nat → Int32} {h h' : xw_A} (k : RX A m lies_ row_ level_ oldLies_ oldRow_ entries_ dl gD gP gQ gR gV gG gH gM zo zv zu zp zq h) (r : FrO B h h') (hB : ∀ q ∈ B, q ∈ A) (ne : entries_ ∉ B ∧ m ∉ B ∧ lies_ ∉ B ∧ row_ ∉ B ∧ level_ ∉ B ∧ oldLies_ ∉ B ∧ oldRow_ ∉ B) : RX A m lies_ row_ level_ oldLies_ oldRow_ entries_ dl gD gP gQ gR gV gG gH gM zo zv zu zp zq h' := by
  obtain ⟨k1, k2, ze, e, k3, k4, k5⟩ := k
  exact ⟨k1, k2.fr r hB, ze, r _ _ ne.1 e, k3.fr r hB, (fun q => (k4 q).fr r hB), k5.fr r ne.2⟩
/-- octets that letters takes -/
theorem ltr_rng {o : Nat → Int32} : ∀ (d i n : Nat), ltr o d i = some n → ∀ t, i ≤ t → t < n → ¬ (o t < 32 ∨ 126 < o t)
  | 0, i, n, h, t, h1, h2 => by
    simp [ltr] at h
    omega
  | d + 1, i, n, h, t, h1, h2 => by
    by_cases h0 : o i = 0
    · rw [ltr_0 h0] at h
      cases h
      omega
    · by_cases h3 : o i < 32 ∨ 126 < o i
      · rw [ltr_n h0 h3] at h
        cases h
      · rw [ltr_s h0 h3] at h
        by_cases q : t = i
        · rw [q]; exact h3
        · exact ltr_rng d (i + 1) n h t (by omega) h2
theorem let_C {dl dl2 : Nat} {w : Int64} {gD gD2 : Nat → Int32} {P1 : Prop} {P2 P3 : Nat → Prop} (J : RC dl gD)
    (rl : (((ltr (oct w) 8 0).getD 0 = 0 ∧ dl2 = dl ∧ P1) ∨ ∃ n, ltr (oct w) 8 0 = some (n + 1) ∧ ((96 < dl + (n + 1) ∧ dl2 = dl ∧ P2 n) ∨ (dl + (n + 1) ≤ 96 ∧ dl2 = dl + (n + 1) ∧ P3 n))) ∧ (∀ j, j < dl → gD2 j = gD j) ∧ ∀ n, ltr (oct w) 8 0 = some (n + 1) → dl + (n + 1) ≤ 96 → ∀ t, t < n + 1 → gD2 (dl + t) = oct w t) : RC dl2 gD2 := fun j hj => by
  obtain ⟨rl, hg, hg2⟩ := rl
  by_cases q : j < dl
  · rw [hg j q]
    exact J j q
  · rcases rl with ⟨-, r, -⟩ | ⟨n, hn, ⟨-, r, -⟩ | ⟨hle, r, -⟩⟩
    · omega
    · omega
    · obtain ⟨t, rfl⟩ : ∃ t, j = dl + t := ⟨j - dl, by omega⟩
      rw [hg2 n hn hle t (by omega)]
      have h9 := ltr_rng 8 0 (n + 1) hn t (Nat.zero_le _) (by omega)
      rw [not_or] at h9
      obtain ⟨c, -, hc, e⟩ := ix_of (a := 32) (b := 126) (by decide) (by decide) h9.1 h9.2
      exact ⟨c, by omega, e⟩
theorem set_C {dl dl2 : Nat} {c : Int32} {gD : Nat → Int32} {P1 P2 P3 : Prop} (J : RC dl gD) (rl : ((c < 0 ∨ 1 < c) ∧ dl2 = dl ∧ P1) ∨ ((¬ c < 0 ∧ ¬ 1 < c) ∧ 48 < dl ∧ dl2 = dl ∧ P2) ∨ ((¬ c < 0 ∧ ¬ 1 < c) ∧ dl ≤ 48 ∧ dl2 = 0 ∧ P3)) : RC dl2 gD := by
  rcases rl with ⟨-, r, -⟩ | ⟨-, -, r, -⟩ | ⟨-, -, r, -⟩
  · rw [r]; exact J
  · rw [r]; exact J
  · rw [r]; exact RC.zero
theorem set_Q {dl dl2 gP gQ gP2 gQ2 prepared_ preparedSize_ : Nat} {A B : List Nat} {c k : Int32} {gD zd zp zq zp2 zq2 : Nat → Int32} {h1 h2 : xw_A} {P3 : Prop} (k1 : RQ A h2 gP gQ zp zq) (hC : RC dl gD) (J : RD dl gD zd) (k6 : ∀ c, c < 2 → ∃ n, zq c = nI n ∧ n ≤ 48)
    (rl : (((c < 0 ∨ 1 < c) ∧ dl2 = dl ∧ some (Value.int k) = some (.int 1)) ∨ ((¬ c < 0 ∧ ¬ 1 < c) ∧ 48 < dl ∧ dl2 = dl ∧ some (Value.int k) = some (.int 2)) ∨ ((¬ c < 0 ∧ ¬ 1 < c) ∧ dl ≤ 48 ∧ dl2 = 0 ∧ some (Value.int k) = some (.int 0) ∧ P3)) ∧ ((¬ some (Value.int k) = some (.int 0) ∧ gP2 = gP ∧ gQ2 = gQ) ∨ ∃ cN p1 l z : Nat, cN < 2 ∧ c = nI cN ∧ some (Value.int k) = some (.int 0) ∧ p1 ∉ A ∧ h1 p1 = some (.inr (9, [.ref l, .ref z, .int (nI (tokN gD dl))])) ∧ gP2 = (if cN = 0 then p1 else gP) ∧ gQ2 = (if cN = 0 then gQ else p1) ∧ ((∀ j, j < dl → ∃ c, c < 128 ∧ gD j = nI c) → DiA A h1 p1 (tkD gD dl (tokN gD dl)))))
    (md : ∃ fp' fq' : Nat → Int32, h2 prepared_ = some (.inl (0, 96, .inl fp')) ∧ h2 preparedSize_ = some (.inl (0, 2, .inl fq')) ∧ (((c < 0 ∨ 1 < c ∨ 48 < dl) ∧ fp' = zp ∧ fq' = zq) ∨ ∃ cN, cN < 2 ∧ c = nI cN ∧ dl ≤ 48 ∧ (∀ j, j < dl → fp' (48 * cN + j) = zd j) ∧ (∀ k, (k < 48 * cN ∨ 48 * cN + 48 ≤ k) → fp' k = zp k) ∧ fq' = upd zq cN (nI dl)))
    (ep2 : h2 prepared_ = some (.inl (0, 96, .inl zp2))) (eq2 : h2 preparedSize_ = some (.inl (0, 2, .inl zq2))) (r : FrO B h1 h2) (hB : ∀ q ∈ B, q ∈ A) : RQ A h2 gP2 gQ2 zp2 zq2 := by
  obtain ⟨r1, r2⟩ := rl
  obtain ⟨fp, fq, ep, eq, md⟩ := md
  obtain rfl := cinj ep2 ep
  obtain rfl := cinj eq2 eq
  rcases r2 with ⟨hv, rfl, rfl⟩ | ⟨cN, p1, l, z, hc, hcn, hv, hp, e1, rfl, rfl, hD⟩
  · rcases md with ⟨-, rfl, rfl⟩ | ⟨cN, hc, hcn, hd, -⟩
    · exact k1
    · have g0 : ¬ c < 0 := by rw [hcn]; exact nI_pos (by omega)
      have g1 : ¬ 1 < c := by rw [hcn]; exact nI_nlt (a := 1) (show cN ≤ 1 by omega) (by decide)
      rcases r1 with ⟨q, -⟩ | ⟨-, q, -⟩ | ⟨-, -, -, q, -⟩
      · exact (q.elim g0 g1).elim
      · omega
      · exact absurd q hv
  · have g0 : ¬ c < 0 := by rw [hcn]; exact nI_pos (by omega)
    have g1 : ¬ 1 < c := by rw [hcn]; exact nI_nlt (a := 1) (show cN ≤ 1 by omega) (by decide)
    have hd : dl ≤ 48 := by
      rcases r1 with ⟨q, -⟩ | ⟨-, -, -, q⟩ | ⟨-, q, -⟩
      · exact (q.elim g0 g1).elim
      · exact absurd (Value.int.inj (Option.some.inj (q.symm.trans hv))) (by decide)
      · exact q
    rcases md with ⟨q, -⟩ | ⟨c2, hc2, hcn2, -, m1, m2, rfl⟩
    · rcases q with q | q | q
      · exact (g0 q).elim
      · exact (g1 q).elim
      · omega
    · obtain rfl : c2 = cN := (nI_eq (by omega) (by omega)).mp (hcn2.symm.trans hcn)
      have kD := (hD hC).fr r hB
      have eD : pkd zp2 (upd zq c2 (nI dl)) c2 = tkD gD dl (tokN gD dl) := by
        show tkD _ (upd zq c2 (nI dl) c2).toNatClampNeg (tokN _ (upd zq c2 (nI dl) c2).toNatClampNeg) = _
        rw [pk_us, nI_clamp (by omega)]
        have hl : ∀ j, j < dl → (fun i => zp2 (48 * c2 + i)) j = gD j := fun j hj => (m1 j hj).trans (J j hj).symm
        rw [tkD_eq hl, tokN_eq hl]
      have eO : ∀ cc, cc < 2 → ¬ cc = c2 → pkd zp2 (upd zq c2 (nI dl)) cc = pkd zp zq cc := fun cc hcc hne => by
        obtain ⟨n, hn, hn2⟩ := k6 cc hcc
        exact pkd_eq (n := n) ((pk_un hne).trans hn) hn hn2 (fun i hi => m2 _ (by omega))
      rcases (show c2 = 0 ∨ c2 = 1 by omega) with rfl | rfl
      · rw [if_pos rfl, if_pos rfl]
        refine ⟨?_, ?_⟩
        · rw [eD]; exact kD
        · rw [eO 1 (by omega) (by omega)]; exact k1.2
      · rw [if_neg (by decide), if_neg (by decide)]
        refine ⟨?_, ?_⟩
        · rw [eO 0 (by omega) (by omega)]; exact k1.1
        · rw [eD]; exact kD
/-- a row gets the prepared texts: its version's entries -/
theorem put_V {m gP gQ zo entries_ live_ oldLive_ texts_ sizes_ prepared_ preparedSize_ : Nat} {A : List Nat} {gO : Int32} {gR gR2 gV : Nat → Option Nat} {zv zu zp zq zt zz ze zv2 zt2 zz2 : Nat → Int32} {h1 h2 : xw_A} {rel : Nat → Prop} {rel2 : Nat → Nat → Prop} (k : RV A h2 gR zv ze) (ku : zo = 1 → RV A h2 gV zu ze) (kq : RQ A h2 gP gQ zp zq) (k6 : ∀ c, c < 2 → ∃ n, zq c = nI n ∧ n ≤ 48)
    (rl : (gR2 = gR ∧ Rf m 0 (.int 1) h2) ∨ ∃ (c a : Nat) (nn y : Int32), gR2 = va_up gR c (some a) ∧ Rf m 0 (.int 0) h2 ∧ (∀ r, r < 24 → rel r → c = r + 1) ∧ a ∉ A ∧ h2 a = some (.inr (10, [.int nn, .int (nI c), .ref gP, .ref gQ, .int y])) ∧ ∃ c1 c2 : Nat, y = nI (c1 + c2) ∧ DiA A h2 gP c1 ∧ DiA A h2 gQ c2)
    (md : ∀ fe fv ft' fz' : Nat → Int32, h1 entries_ = some (.inl (0, 600, .inl fe)) → h1 live_ = some (.inl (0, 24, .inl fv)) → h2 texts_ = some (.inl (0, 2304, .inl ft')) → h2 sizes_ = some (.inl (0, 48, .inl fz')) → (Rf m 0 (.int 1) h2 ∧ h2 entries_ = some (.inl (0, 600, .inl fe)) ∧ h2 live_ = some (.inl (0, 24, .inl fv))) ∨ (Rf m 0 (.int 0) h2 ∧ ∃ r vs y : Nat, r < 24 ∧ rel2 r y ∧ vs < 600 ∧ h2 live_ = some (.inl (0, 24, .inl (upd fv r (nI vs)))) ∧ h2 entries_ = some (.inl (0, 600, .inl (upd fe vs (nI y)))) ∧ y = tkS2 ft' fz' r 2 ∧ (∀ j, j < 24 → ¬ fv j = nI vs) ∧ (∀ fov : Nat → Int32, h1 oldLive_ = some (.inl (0, 24, .inl fov)) → Rf m 20 (.int (nI 1)) h1 → ∀ j, j < 24 → ¬ fov j = nI vs) ∧ ∀ fp fq ft fz : Nat → Int32, h1 prepared_ = some (.inl (0, 96, .inl fp)) → h1 preparedSize_ = some (.inl (0, 2, .inl fq)) → h1 texts_ = some (.inl (0, 2304, .inl ft)) → h1 sizes_ = some (.inl (0, 48, .inl fz)) → TxG fp fq ft fz r ft' fz'))
    (nn1 : ∀ j, j < 24 → zv j < 0 ∨ ∃ v, v < 600 ∧ zv j = nI v) (nn2 : zo = 1 → ∀ j, j < 24 → zu j < 0 ∨ ∃ v, v < 600 ∧ zu j = nI v) (J : Rl gO gR gV zo zv zu)
    (ee : h1 entries_ = some (.inl (0, 600, .inl ze))) (el : h1 live_ = some (.inl (0, 24, .inl zv))) (eu : h1 oldLive_ = some (.inl (0, 24, .inl zu))) (e20 : Rf m 20 (.int (nI zo)) h1) (ep : h1 prepared_ = some (.inl (0, 96, .inl zp))) (eq : h1 preparedSize_ = some (.inl (0, 2, .inl zq))) (et : h1 texts_ = some (.inl (0, 2304, .inl zt))) (ez : h1 sizes_ = some (.inl (0, 48, .inl zz)))
    (et2 : h2 texts_ = some (.inl (0, 2304, .inl zt2))) (ez2 : h2 sizes_ = some (.inl (0, 48, .inl zz2))) (el2 : h2 live_ = some (.inl (0, 24, .inl zv2))) (hrel : ∀ r y, rel2 r y → rel r) :
    (∃ ze2 : Nat → Int32, h2 entries_ = some (.inl (0, 600, .inl ze2)) ∧ RV A h2 gR2 zv2 ze2 ∧ (zo = 1 → RV A h2 gV zu ze2)) ∧ (Rf m 0 (.int 0) h2 → ∃ r, rel2 r (pkd zp zq 0 + pkd zp zq 1)) := by
  have oc : ∀ j, j < 24 → ∀ a, gR (j + 1) = some a → ¬ zv j < 0 := fun j hj a ha q => by rw [(J.2.2.1 j hj).mpr q] at ha; cases ha
  have ov : zo = 1 → ∀ j, j < 24 → ∀ a, gV (j + 1) = some a → ¬ zu j < 0 := fun z j hj a ha q => by rw [(J.2.2.2 z j hj).mpr q] at ha; cases ha
  rcases md ze zv zt2 zz2 ee el et2 ez2 with ⟨f1, ee2, el3⟩ | ⟨f0, r, vs, y, hr, hrl, hvs, el3, ee2, hy, hn1, hn2, hT⟩
  · obtain rfl := cinj el2 el3
    rcases rl with ⟨rfl, -⟩ | ⟨c, a, nn, y, rfl, f0, -⟩
    · exact ⟨⟨ze, ee2, k, ku⟩, fun z => absurd (Value.int.inj (z.inj f1)) (by decide)⟩
    · exact absurd (Value.int.inj (f0.inj f1)) (by decide)
  · obtain rfl := cinj el2 el3
    have hy2 := tkS2_pk k6 (hT zp zq zt zz ep eq et ez)
    have keep : ∀ {gS : Nat → Option Nat} {zs : Nat → Int32} (i : Nat), RV A h2 gS zs ze → (∀ j, j < 24 → zs j < 0 ∨ ∃ v, v < 600 ∧ zs j = nI v) → (∀ j, j < 24 → ∀ a, gS (j + 1) = some a → ¬ zs j < 0) → (∀ j, j < 24 → ¬ zs j = nI vs) → i < 24 → ∀ a, gS (i + 1) = some a → upd ze vs (nI y) (zs i).toNatClampNeg = ze (zs i).toNatClampNeg := fun {gS zs} i _ hz ho hv hi a ha => by
      obtain ⟨v, hv1, hv2⟩ := (hz i hi).resolve_left (ho i hi a ha)
      rw [hv2, nI_clamp (by omega)]
      exact pk_un (fun q => hv i hi (by rw [hv2, q]))
    rcases rl with ⟨-, f1⟩ | ⟨c, a, nn, y9, rfl, -, hcr, haA, ea, c1, c2, hy9, d1, d2⟩
    · exact absurd (Value.int.inj (f0.inj f1)) (by decide)
    · obtain rfl := d1.inj kq.1
      obtain rfl := d2.inj kq.2
      have hc := hcr r hr (hrel r y hrl)
      refine ⟨⟨_, ee2, fun j hj b hb => ?_, fun q j hj b hb => ?_⟩, fun _ => ⟨r, by rw [← hy2, ← hy]; exact hrl⟩⟩
      · by_cases q : j = r
        · subst q
          rw [hc, va_up_self] at hb
          obtain rfl := Option.some.inj hb
          refine ⟨haA, nn, nI c, gP, gQ, ?_⟩
          rw [ea, hy9, pk_us, nI_clamp (by omega), pk_us, hy, hy2]
        · rw [va_up_ne _ _ (by omega)] at hb
          obtain ⟨b1, vn, vr, p, q2, e⟩ := k j hj b hb
          refine ⟨b1, vn, vr, p, q2, ?_⟩
          rw [pk_un q, keep j k nn1 oc hn1 hj b hb]
          exact e
      · obtain ⟨b1, vn, vr, p, q2, e⟩ := ku q j hj b hb
        refine ⟨b1, vn, vr, p, q2, ?_⟩
        rw [keep j (ku q) (nn2 q) (ov q) (hn2 zu eu (by rw [← q]; exact e20)) hj b hb]
        exact e
theorem del_V {m live_ zo : Nat} {gO x : Int32} {gR gR2 gV : Nat → Option Nat} {zv zu ze zv2 : Nat → Int32} {k : Int32} {h2 : xw_A} {A : List Nat} {P : Nat → Prop} (V : RV A h2 gR zv ze) (J : Rl gO gR gV zo zv zu)
    (rl : ((∀ j, 1 ≤ j → j ≤ 24 → x = nI j → gR j = none) ∧ gR2 = gR ∧ some (Value.int k) = some (.int 1)) ∨ ∃ c : Nat, 1 ≤ c ∧ c ≤ 24 ∧ x = nI c ∧ gR c ≠ none ∧ gR2 = va_up gR c none ∧ some (Value.int k) = some (.int 0) ∧ P c)
    (md : (∃ j : Nat, j < 24 ∧ x = nI (j + 1) ∧ ¬ zv j < 0 ∧ Rf m 0 (.int 0) h2 ∧ h2 live_ = some (.inl (0, 24, .inl (upd zv j (-1))))) ∨ ((∀ j, j < 24 → x = nI (j + 1) → zv j < 0) ∧ Rf m 0 (.int 1) h2 ∧ h2 live_ = some (.inl (0, 24, .inl zv)))) (el2 : h2 live_ = some (.inl (0, 24, .inl zv2))) : RV A h2 gR2 zv2 ze := by
  obtain ⟨-, -, oc, -⟩ := J
  rcases md with ⟨j, hj, hx, hnn, -, el3⟩ | ⟨hal, -, el3⟩
  · obtain rfl := cinj el2 el3
    rcases rl with ⟨ha, rfl, -⟩ | ⟨c, hc1, hc2, hxc, -, rfl, -⟩
    · exact absurd ((oc j hj).mp (ha (j + 1) (by omega) (by omega) hx)) hnn
    · obtain rfl : c = j + 1 := (nI_eq (by omega) (by omega)).mp (hxc.symm.trans hx)
      refine V.sub (fun i hi a ha => ?_)
      by_cases q : i = j
      · rw [q, va_up_self] at ha; cases ha
      · rw [va_up_ne _ _ (by omega)] at ha
        exact ⟨ha, pk_un q⟩
  · obtain rfl := cinj el2 el3
    rcases rl with ⟨-, rfl, -⟩ | ⟨c, hc1, hc2, hxc, -, rfl, -⟩
    · exact V
    · refine V.sub (fun i hi a ha => ?_)
      by_cases q : i + 1 = c
      · rw [q, va_up_self] at ha; cases ha
      · rw [va_up_ne _ _ q] at ha
        exact ⟨ha, rfl⟩
theorem beg_V {zo zo2 live_ oldLive_ : Nat} {A : List Nat} {gO gO2 : Int32} {gR gV gV2 : Nat → Option Nat} {zv zu zu2 ze : Nat → Int32} {h1 h2 : xw_A} {P1 P2 Q1 Q2 Q3 Q4 : Prop} (V : RV A h2 gR zv ze) (U : zo = 1 → RV A h2 gV zu ze) (J : Rl gO gR gV zo zv zu)
    (rl : (¬ gO = 0 ∧ gO2 = gO ∧ gV2 = gV ∧ P1) ∨ (gO = 0 ∧ gO2 = 1 ∧ (∀ j, 1 ≤ j → j ≤ 24 → gV2 j = gR j) ∧ P2))
    (md : (zo = 1 ∧ Q1 ∧ Q2 ∧ ∀ fov : Nat → Int32, h1 oldLive_ = some (.inl (0, 24, .inl fov)) → h2 oldLive_ = some (.inl (0, 24, .inl fov))) ∨ (zo = 0 ∧ Q3 ∧ Q4 ∧ ∀ fv : Nat → Int32, h1 live_ = some (.inl (0, 24, .inl fv)) → ∃ fov : Nat → Int32, h2 oldLive_ = some (.inl (0, 24, .inl fov)) ∧ ∀ k, k < 24 → fov k = fv k))
    (el : h1 live_ = some (.inl (0, 24, .inl zv))) (eu : h1 oldLive_ = some (.inl (0, 24, .inl zu))) (eu2 : h2 oldLive_ = some (.inl (0, 24, .inl zu2))) : zo2 = 1 → RV A h2 gV2 zu2 ze := fun _ => by
  obtain ⟨j1, -⟩ := J
  rcases rl with ⟨ho, -, rfl, -⟩ | ⟨ho, -, hv, -⟩
  · rcases md with ⟨hz, -, -, m1⟩ | ⟨hz, -⟩
    · obtain rfl := cinj eu2 (m1 zu eu)
      exact U hz
    · exact absurd (by rw [j1, hz]; rfl) ho
  · rcases md with ⟨hz, -⟩ | ⟨hz, -, -, m1⟩
    · exact absurd ho (by rw [j1, hz]; decide)
    · obtain ⟨f, ef, hf⟩ := m1 zv el
      obtain rfl := cinj eu2 ef
      exact V.sub (fun j hj a ha => ⟨by rw [← hv (j + 1) (by omega) (by omega)]; exact ha, hf j hj⟩)
theorem rol_V {zo live_ oldLive_ : Nat} {A : List Nat} {gO gO2 : Int32} {gR gR2 gV : Nat → Option Nat} {zv zu zv2 ze : Nat → Int32} {h1 h2 : xw_A} {y : Int32} {P1 P2 Q1 Q2 Q3 Q4 : Prop} (V : RV A h2 gR zv ze) (U : zo = 1 → RV A h2 gV zu ze) (J : Rl gO gR gV zo zv zu)
    (rl : (gO = 0 ∧ gO2 = gO ∧ gR2 = gR ∧ P1) ∨ (¬ gO = 0 ∧ gO2 = 0 ∧ (∀ j, 1 ≤ j → j ≤ 24 → gR2 j = gV j) ∧ P2))
    (md : (zo = 0 ∧ Q1 ∧ Q2 ∧ ∀ fv : Nat → Int32, h1 live_ = some (.inl (0, 24, .inl fv)) → h2 live_ = some (.inl (0, 24, .inl fv))) ∨ (zo = 1 ∧ Q3 ∧ Q4 ∧ ∀ fov : Nat → Int32, h1 oldLive_ = some (.inl (0, 24, .inl fov)) → ∃ fv : Nat → Int32, h2 live_ = some (.inl (0, 24, .inl fv)) ∧ (∀ k, k < 24 → fv k = fov k) ∧ some (Value.int y) = some (.int (nI (cntL fv 24)))))
    (el : h1 live_ = some (.inl (0, 24, .inl zv))) (eu : h1 oldLive_ = some (.inl (0, 24, .inl zu))) (el2 : h2 live_ = some (.inl (0, 24, .inl zv2))) : RV A h2 gR2 zv2 ze := by
  obtain ⟨j1, -⟩ := J
  rcases rl with ⟨ho, -, rfl, -⟩ | ⟨ho, -, hr, -⟩
  · rcases md with ⟨hz, -, -, m1⟩ | ⟨hz, -⟩
    · obtain rfl := cinj el2 (m1 zv el)
      exact V
    · exact absurd ho (by rw [j1, hz]; decide)
  · rcases md with ⟨hz, -⟩ | ⟨hz, -, -, m1⟩
    · exact absurd (by rw [j1, hz]; rfl) ho
    · obtain ⟨f, ef, hf, -⟩ := m1 zu eu
      obtain rfl := cinj el2 ef
      exact (U hz).sub (fun j hj a ha => ⟨by rw [← hr (j + 1) (by omega) (by omega)]; exact ha, hf j hj⟩)
set_option maxHeartbeats 1000000 in
theorem RI.lv {m draft_ asked_ prepared_ preparedSize_ texts_ sizes_ weights_ entries_ lies_ live_ row_ level_ oldTexts_ oldSizes_ oldLies_ oldLive_ oldRow_ firstToken_ starred_ tokenAt_ tokenSize_ groupKind_ groupPhrase_ groupSize_ groupMask_ groupFar_ out_ top_ masks_ begins_ lasts_ truth_ answers_ order_ scores_ T zo : Nat} {zv zu : Nat → Int32} {h : xw_A} (R : RI m draft_ asked_ prepared_ preparedSize_ texts_ sizes_ weights_ entries_ lies_ live_ row_ level_ oldTexts_ oldSizes_ oldLies_ oldLive_ oldRow_ firstToken_ starred_ tokenAt_ tokenSize_ groupKind_ groupPhrase_ groupSize_ groupMask_ groupFar_ out_ top_ masks_ begins_ lasts_ truth_ answers_ order_ scores_ T h) (hT : T < 512) (el : h live_ = some (.inl (0, 24, .inl zv))) (eu : h oldLive_ = some (.inl (0, 24, .inl zu))) (e20 : Rf m 20 (.int (nI zo)) h) (hz : zo ≤ 1) : (∀ j, j < 24 → zv j < 0 ∨ ∃ v, v < 600 ∧ zv j = nI v) ∧ (zo = 1 → ∀ j, j < 24 → zu j < 0 ∨ ∃ v, v < 600 ∧ zu j = nI v) := by
  obtain ⟨fs, l, e, ⟨er, g_err⟩, KDr, KPr, KTx, KOt, KSt, KMo, KWe, KBe, KAn, KQu⟩ := R
  obtain ⟨vs, md, sg, op, ov, os, fe, fi, fv, fr, fL, foi, fov, fow, g_versions, g_made, g_segments, g_open, g_oldVersions, g_oldSegments, g_entries, e_entries, g_lies, e_lies, g_live, e_live, g_row, e_row, g_level, e_level, g_oldLies, e_oldLies, g_oldLive, e_oldLive, g_oldRow, e_oldRow, hvs, hsg, hop, hov, hos, hLI, hRO, hLV, hOI, hOR, hOV, hpot⟩ := id KSt
  obtain rfl := cinj el e_live
  obtain rfl := cinj eu e_oldLive
  obtain rfl : zo = op := (nI_eq (by omega) (by omega)).mp (Value.int.inj (e20.inj ⟨_, e, g_open⟩))
  exact ⟨fun j hj => (hLV j hj).imp id (fun ⟨v, a, b⟩ => ⟨v, by omega, b⟩), fun q j hj => (hOV q j hj).imp id (fun ⟨v, a, b⟩ => ⟨v, by omega, b⟩)⟩
set_option maxHeartbeats 1000000 in
theorem RI.sgb {m draft_ asked_ prepared_ preparedSize_ texts_ sizes_ weights_ entries_ lies_ live_ row_ level_ oldTexts_ oldSizes_ oldLies_ oldLive_ oldRow_ firstToken_ starred_ tokenAt_ tokenSize_ groupKind_ groupPhrase_ groupSize_ groupMask_ groupFar_ out_ top_ masks_ begins_ lasts_ truth_ answers_ order_ scores_ T : Nat} {h : xw_A} (R : RI m draft_ asked_ prepared_ preparedSize_ texts_ sizes_ weights_ entries_ lies_ live_ row_ level_ oldTexts_ oldSizes_ oldLies_ oldLive_ oldRow_ firstToken_ starred_ tokenAt_ tokenSize_ groupKind_ groupPhrase_ groupSize_ groupMask_ groupFar_ out_ top_ masks_ begins_ lasts_ truth_ answers_ order_ scores_ T h) (hT : T < 512) : (∀ X : RSt, SgC m lies_ row_ level_ X h → X.2.2.2.2 < 512) ∧ ∀ nv : Nat, nv < 600 → Rf m 15 (.int (nI nv)) h → nv < 512 := by
  obtain ⟨fs, l, e, ⟨er, g_err⟩, KDr, KPr, KTx, KOt, KSt, KMo, KWe, KBe, KAn, KQu⟩ := R
  obtain ⟨vs, md, sg, op, ov, os, fe, fi, fv, fr, fL, foi, fov, fow, g_versions, g_made, g_segments, g_open, g_oldVersions, g_oldSegments, g_entries, e_entries, g_lies, e_lies, g_live, e_live, g_row, e_row, g_level, e_level, g_oldLies, e_oldLies, g_oldLive, e_oldLive, g_oldRow, e_oldRow, hvs, hsg, hop, hov, hos, hLI, hRO, hLV, hOI, hOR, hOV, hpot⟩ := id KSt
  refine ⟨fun X k => ?_, fun nv hn k => ?_⟩
  · obtain rfl := k.eq e g_made g_segments e_lies e_row e_level (by omega) (by omega)
    dsimp only
    omega
  · obtain rfl : nv = vs := (nI_eq (by omega) (by omega)).mp (Value.int.inj (k.inj ⟨_, e, g_versions⟩))
    omega
def LwS (A : List Nat) (x d tx w st s1 s2 s3 s4 sv v1 v2 v3 v4 qo tk tl tz ph nd po k1 k2 k3 so sp ao o1 o2 o3 o4 : Nat) (ps ns : List Nat) (m draft_ asked_ prepared_ preparedSize_ texts_ sizes_ weights_ entries_ lies_ live_ row_ level_ oldTexts_ oldSizes_ oldLies_ oldLive_ oldRow_ firstToken_ starred_ tokenAt_ tokenSize_ groupKind_ groupPhrase_ groupSize_ groupMask_ groupFar_ out_ top_ masks_ begins_ lasts_ truth_ answers_ order_ scores_ o od : Nat) : Prop := CS A x d tx w st s1 s2 s3 s4 sv v1 v2 v3 v4 qo tk tl tz ph nd po k1 k2 k3 so sp ao o1 o2 o3 o4 ps ns ∧ NDl [m, draft_, asked_, prepared_, preparedSize_, texts_, sizes_, weights_, entries_, lies_, live_, row_, level_, oldTexts_, oldSizes_, oldLies_, oldLive_, oldRow_, firstToken_, starred_, tokenAt_, tokenSize_, groupKind_, groupPhrase_, groupSize_, groupMask_, groupFar_, out_, top_, masks_, begins_, lasts_, truth_, answers_, order_, scores_] ∧ (∀ a ∈ [m, draft_, asked_, prepared_, preparedSize_, texts_, sizes_, weights_, entries_, lies_, live_, row_, level_, oldTexts_, oldSizes_, oldLies_, oldLive_, oldRow_, firstToken_, starred_, tokenAt_, tokenSize_, groupKind_, groupPhrase_, groupSize_, groupMask_, groupFar_, out_, top_, masks_, begins_, lasts_, truth_, answers_, order_, scores_], a ∈ A) ∧ o ∈ A ∧ od ∈ A ∧ (∀ a ∈ [m, draft_, asked_, prepared_, preparedSize_, texts_, sizes_, weights_, entries_, lies_, live_, row_, level_, oldTexts_, oldSizes_, oldLies_, oldLive_, oldRow_, firstToken_, starred_, tokenAt_, tokenSize_, groupKind_, groupPhrase_, groupSize_, groupMask_, groupFar_, out_, top_, masks_, begins_, lasts_, truth_, answers_, order_, scores_], a ∉ (CLs x d tx w st s1 s2 s3 s4 sv v1 v2 v3 v4 qo tk tl tz ph nd po k1 k2 k3 so sp ao o1 o2 o3 o4 ps ns)) ∧ o ∉ (CLs x d tx w st s1 s2 s3 s4 sv v1 v2 v3 v4 qo tk tl tz ph nd po k1 k2 k3 so sp ao o1 o2 o3 o4 ps ns) ∧ o ∉ [m, draft_, asked_, prepared_, preparedSize_, texts_, sizes_, weights_, entries_, lies_, live_, row_, level_, oldTexts_, oldSizes_, oldLies_, oldLive_, oldRow_, firstToken_, starred_, tokenAt_, tokenSize_, groupKind_, groupPhrase_, groupSize_, groupMask_, groupFar_, out_, top_, masks_, begins_, lasts_, truth_, answers_, order_, scores_] ∧ od ∉ (CLs x d tx w st s1 s2 s3 s4 sv v1 v2 v3 v4 qo tk tl tz ph nd po k1 k2 k3 so sp ao o1 o2 o3 o4 ps ns) ∧ od ∉ [m, draft_, asked_, prepared_, preparedSize_, texts_, sizes_, weights_, entries_, lies_, live_, row_, level_, oldTexts_, oldSizes_, oldLies_, oldLive_, oldRow_, firstToken_, starred_, tokenAt_, tokenSize_, groupKind_, groupPhrase_, groupSize_, groupMask_, groupFar_, out_, top_, masks_, begins_, lasts_, truth_, answers_, order_, scores_] ∧ od ≠ o
def LwI (A : List Nat) (x d tx w st s1 s2 s3 s4 sv v1 v2 v3 v4 qo tk tl tz ph nd po k1 k2 k3 so sp ao o1 o2 o3 o4 : Nat) (ps ns : List Nat) (m draft_ asked_ prepared_ preparedSize_ texts_ sizes_ weights_ entries_ lies_ live_ row_ level_ oldTexts_ oldSizes_ oldLies_ oldLive_ oldRow_ firstToken_ starred_ tokenAt_ tokenSize_ groupKind_ groupPhrase_ groupSize_ groupMask_ groupFar_ out_ top_ masks_ begins_ lasts_ truth_ answers_ order_ scores_ o od T dl dr w0 w1 z0 z1 : Nat) (gO : Int32) (gR gV : Nat → Option Nat) (gD : Nat → Int32) (gP gQ : Nat) (gG gH : GT5) (gM : Nat × Nat) (zo : Nat) (zv zu zd zp zq zt zz yt yz : Nat → Int32) (h : xw_A) : Prop := CI A x d tx w st s1 s2 s3 s4 sv v1 v2 v3 v4 qo tk tl tz ph nd po k1 k2 k3 so sp ao o1 o2 o3 o4 ps ns dl w0 w1 gO gR gV gD gP gQ gG gH gM h ∧ RI m draft_ asked_ prepared_ preparedSize_ texts_ sizes_ weights_ entries_ lies_ live_ row_ level_ oldTexts_ oldSizes_ oldLies_ oldLive_ oldRow_ firstToken_ starred_ tokenAt_ tokenSize_ groupKind_ groupPhrase_ groupSize_ groupMask_ groupFar_ out_ top_ masks_ begins_ lasts_ truth_ answers_ order_ scores_ T h ∧ (Rf m 10 (.int (nI dr)) h ∧ Rw weights_ z0 z1 h ∧ RM m live_ oldLive_ zo zv zu h ∧ h draft_ = some (.inl (0, 96, .inl zd)) ∧ RN prepared_ preparedSize_ texts_ sizes_ oldTexts_ oldSizes_ zp zq zt zz yt yz h) ∧ (∃ f : Nat → Int64, h o = some (.inl (2, 1, .inr (.inl f)))) ∧ ∃ f : Nat → UInt64, h od = some (.inl (3, 1, .inr (.inr (.inr (.inl f)))))
theorem LwI.cls {A : List Nat} {x d tx w st s1 s2 s3 s4 sv v1 v2 v3 v4 qo tk tl tz ph nd po k1 k2 k3 so sp ao o1 o2 o3 o4 : Nat} {ps ns : List Nat} {m draft_ asked_ prepared_ preparedSize_ texts_ sizes_ weights_ entries_ lies_ live_ row_ level_ oldTexts_ oldSizes_ oldLies_ oldLive_ oldRow_ firstToken_ starred_ tokenAt_ tokenSize_ groupKind_ groupPhrase_ groupSize_ groupMask_ groupFar_ out_ top_ masks_ begins_ lasts_ truth_ answers_ order_ scores_ o od : Nat} {T dl dl' dr w0 w1 w0' w1' z0 z1 zo : Nat} {gO gO' : Int32} {gR gR' gV gV' : Nat → Option Nat} {gD gD' zv zu zd zp zq zt zz yt yz : Nat → Int32} {gP gP' gQ gQ' : Nat} {gG gG' gH gH' : GT5} {gM gM' : Nat × Nat} {h h1 : xw_A} (Z : LwS A x d tx w st s1 s2 s3 s4 sv v1 v2 v3 v4 qo tk tl tz ph nd po k1 k2 k3 so sp ao o1 o2 o3 o4 ps ns m draft_ asked_ prepared_ preparedSize_ texts_ sizes_ weights_ entries_ lies_ live_ row_ level_ oldTexts_ oldSizes_ oldLies_ oldLive_ oldRow_ firstToken_ starred_ tokenAt_ tokenSize_ groupKind_ groupPhrase_ groupSize_ groupMask_ groupFar_ out_ top_ masks_ begins_ lasts_ truth_ answers_ order_ scores_ o od) (K : LwI A x d tx w st s1 s2 s3 s4 sv v1 v2 v3 v4 qo tk tl tz ph nd po k1 k2 k3 so sp ao o1 o2 o3 o4 ps ns m draft_ asked_ prepared_ preparedSize_ texts_ sizes_ weights_ entries_ lies_ live_ row_ level_ oldTexts_ oldSizes_ oldLies_ oldLive_ oldRow_ firstToken_ starred_ tokenAt_ tokenSize_ groupKind_ groupPhrase_ groupSize_ groupMask_ groupFar_ out_ top_ masks_ begins_ lasts_ truth_ answers_ order_ scores_ o od T dl dr w0 w1 z0 z1 gO gR gV gD gP gQ gG gH gM zo zv zu zd zp zq zt zz yt yz h) (p : CI A x d tx w st s1 s2 s3 s4 sv v1 v2 v3 v4 qo tk tl tz ph nd po k1 k2 k3 so sp ao o1 o2 o3 o4 ps ns dl' w0' w1' gO' gR' gV' gD' gP' gQ' gG' gH' gM' h1 ∧ FrO (o :: (CLs x d tx w st s1 s2 s3 s4 sv v1 v2 v3 v4 qo tk tl tz ph nd po k1 k2 k3 so sp ao o1 o2 o3 o4 ps ns)) h h1 ∧ ∃ f : Nat → Int64, h1 o = some (.inl (2, 1, .inr (.inl f)))) : LwI A x d tx w st s1 s2 s3 s4 sv v1 v2 v3 v4 qo tk tl tz ph nd po k1 k2 k3 so sp ao o1 o2 o3 o4 ps ns m draft_ asked_ prepared_ preparedSize_ texts_ sizes_ weights_ entries_ lies_ live_ row_ level_ oldTexts_ oldSizes_ oldLies_ oldLive_ oldRow_ firstToken_ starred_ tokenAt_ tokenSize_ groupKind_ groupPhrase_ groupSize_ groupMask_ groupFar_ out_ top_ masks_ begins_ lasts_ truth_ answers_ order_ scores_ o od T dl' dr w0' w1' z0 z1 gO' gR' gV' gD' gP' gQ' gG' gH' gM' zo zv zu zd zp zq zt zz yt yz h1 := by
  obtain ⟨S, NM, hMA, hoA, hodA, hD, no, noM, nod, nodM, noo⟩ := Z
  obtain ⟨KC, KR, KD, -, fd, ed⟩ := K
  have hM : ∀ a ∈ [m, draft_, asked_, prepared_, preparedSize_, texts_, sizes_, weights_, entries_, lies_, live_, row_, level_, oldTexts_, oldSizes_, oldLies_, oldLive_, oldRow_, firstToken_, starred_, tokenAt_, tokenSize_, groupKind_, groupPhrase_, groupSize_, groupMask_, groupFar_, out_, top_, masks_, begins_, lasts_, truth_, answers_, order_, scores_], a ∉ (o :: (CLs x d tx w st s1 s2 s3 s4 sv v1 v2 v3 v4 qo tk tl tz ph nd po k1 k2 k3 so sp ao o1 o2 o3 o4 ps ns)) := fun a ha hb => (List.mem_cons.mp hb).elim (fun z => noM (by rw [← z]; exact ha)) (hD a ha)
  exact ⟨p.1, KR.fr p.2.1 hM, ⟨KD.1.fr p.2.1 (hM m List.mem_cons_self), KD.2.1.fr p.2.1 (hM weights_ (List.mem_of_getElem? (i := 7) rfl)), KD.2.2.1.fr p.2.1 (hM m List.mem_cons_self) (hM live_ (List.mem_of_getElem? (i := 10) rfl)) (hM oldLive_ (List.mem_of_getElem? (i := 16) rfl)), p.2.1 _ _ (hM draft_ (List.mem_of_getElem? (i := 1) rfl)) KD.2.2.2.1, KD.2.2.2.2.fr p.2.1 (hM prepared_ (List.mem_of_getElem? (i := 3) rfl)) (hM preparedSize_ (List.mem_of_getElem? (i := 4) rfl)) (hM texts_ (List.mem_of_getElem? (i := 5) rfl)) (hM sizes_ (List.mem_of_getElem? (i := 6) rfl)) (hM oldTexts_ (List.mem_of_getElem? (i := 13) rfl)) (hM oldSizes_ (List.mem_of_getElem? (i := 14) rfl))⟩, p.2.2, fd, p.2.1 od _ (fun hb => (List.mem_cons.mp hb).elim noo nod) ed⟩
theorem LwI.clsD {A : List Nat} {x d tx w st s1 s2 s3 s4 sv v1 v2 v3 v4 qo tk tl tz ph nd po k1 k2 k3 so sp ao o1 o2 o3 o4 : Nat} {ps ns : List Nat} {m draft_ asked_ prepared_ preparedSize_ texts_ sizes_ weights_ entries_ lies_ live_ row_ level_ oldTexts_ oldSizes_ oldLies_ oldLive_ oldRow_ firstToken_ starred_ tokenAt_ tokenSize_ groupKind_ groupPhrase_ groupSize_ groupMask_ groupFar_ out_ top_ masks_ begins_ lasts_ truth_ answers_ order_ scores_ o od : Nat} {T dl dl' dr w0 w1 w0' w1' z0 z1 zo : Nat} {gO gO' : Int32} {gR gR' gV gV' : Nat → Option Nat} {gD gD' zv zu zd zp zq zt zz yt yz : Nat → Int32} {gP gP' gQ gQ' : Nat} {gG gG' gH gH' : GT5} {gM gM' : Nat × Nat} {h h1 : xw_A} (Z : LwS A x d tx w st s1 s2 s3 s4 sv v1 v2 v3 v4 qo tk tl tz ph nd po k1 k2 k3 so sp ao o1 o2 o3 o4 ps ns m draft_ asked_ prepared_ preparedSize_ texts_ sizes_ weights_ entries_ lies_ live_ row_ level_ oldTexts_ oldSizes_ oldLies_ oldLive_ oldRow_ firstToken_ starred_ tokenAt_ tokenSize_ groupKind_ groupPhrase_ groupSize_ groupMask_ groupFar_ out_ top_ masks_ begins_ lasts_ truth_ answers_ order_ scores_ o od) (K : LwI A x d tx w st s1 s2 s3 s4 sv v1 v2 v3 v4 qo tk tl tz ph nd po k1 k2 k3 so sp ao o1 o2 o3 o4 ps ns m draft_ asked_ prepared_ preparedSize_ texts_ sizes_ weights_ entries_ lies_ live_ row_ level_ oldTexts_ oldSizes_ oldLies_ oldLive_ oldRow_ firstToken_ starred_ tokenAt_ tokenSize_ groupKind_ groupPhrase_ groupSize_ groupMask_ groupFar_ out_ top_ masks_ begins_ lasts_ truth_ answers_ order_ scores_ o od T dl dr w0 w1 z0 z1 gO gR gV gD gP gQ gG gH gM zo zv zu zd zp zq zt zz yt yz h) (p : CI A x d tx w st s1 s2 s3 s4 sv v1 v2 v3 v4 qo tk tl tz ph nd po k1 k2 k3 so sp ao o1 o2 o3 o4 ps ns dl' w0' w1' gO' gR' gV' gD' gP' gQ' gG' gH' gM' h1 ∧ FrO (od :: (CLs x d tx w st s1 s2 s3 s4 sv v1 v2 v3 v4 qo tk tl tz ph nd po k1 k2 k3 so sp ao o1 o2 o3 o4 ps ns)) h h1 ∧ ∃ f : Nat → UInt64, h1 od = some (.inl (3, 1, .inr (.inr (.inr (.inl f)))))) : LwI A x d tx w st s1 s2 s3 s4 sv v1 v2 v3 v4 qo tk tl tz ph nd po k1 k2 k3 so sp ao o1 o2 o3 o4 ps ns m draft_ asked_ prepared_ preparedSize_ texts_ sizes_ weights_ entries_ lies_ live_ row_ level_ oldTexts_ oldSizes_ oldLies_ oldLive_ oldRow_ firstToken_ starred_ tokenAt_ tokenSize_ groupKind_ groupPhrase_ groupSize_ groupMask_ groupFar_ out_ top_ masks_ begins_ lasts_ truth_ answers_ order_ scores_ o od T dl' dr w0' w1' z0 z1 gO' gR' gV' gD' gP' gQ' gG' gH' gM' zo zv zu zd zp zq zt zz yt yz h1 := by
  obtain ⟨S, NM, hMA, hoA, hodA, hD, no, noM, nod, nodM, noo⟩ := Z
  obtain ⟨KC, KR, KD, ⟨fd, ed⟩, -⟩ := K
  have hM : ∀ a ∈ [m, draft_, asked_, prepared_, preparedSize_, texts_, sizes_, weights_, entries_, lies_, live_, row_, level_, oldTexts_, oldSizes_, oldLies_, oldLive_, oldRow_, firstToken_, starred_, tokenAt_, tokenSize_, groupKind_, groupPhrase_, groupSize_, groupMask_, groupFar_, out_, top_, masks_, begins_, lasts_, truth_, answers_, order_, scores_], a ∉ (od :: (CLs x d tx w st s1 s2 s3 s4 sv v1 v2 v3 v4 qo tk tl tz ph nd po k1 k2 k3 so sp ao o1 o2 o3 o4 ps ns)) := fun a ha hb => (List.mem_cons.mp hb).elim (fun z => nodM (by rw [← z]; exact ha)) (hD a ha)
  exact ⟨p.1, KR.fr p.2.1 hM, ⟨KD.1.fr p.2.1 (hM m List.mem_cons_self), KD.2.1.fr p.2.1 (hM weights_ (List.mem_of_getElem? (i := 7) rfl)), KD.2.2.1.fr p.2.1 (hM m List.mem_cons_self) (hM live_ (List.mem_of_getElem? (i := 10) rfl)) (hM oldLive_ (List.mem_of_getElem? (i := 16) rfl)), p.2.1 _ _ (hM draft_ (List.mem_of_getElem? (i := 1) rfl)) KD.2.2.2.1, KD.2.2.2.2.fr p.2.1 (hM prepared_ (List.mem_of_getElem? (i := 3) rfl)) (hM preparedSize_ (List.mem_of_getElem? (i := 4) rfl)) (hM texts_ (List.mem_of_getElem? (i := 5) rfl)) (hM sizes_ (List.mem_of_getElem? (i := 6) rfl)) (hM oldTexts_ (List.mem_of_getElem? (i := 13) rfl)) (hM oldSizes_ (List.mem_of_getElem? (i := 14) rfl))⟩, ⟨fd, p.2.1 o _ (fun hb => (List.mem_cons.mp hb).elim (Ne.symm noo) no) ed⟩, p.2.2⟩
theorem LwI.clsZ {A : List Nat} {x d tx w st s1 s2 s3 s4 sv v1 v2 v3 v4 qo tk tl tz ph nd po k1 k2 k3 so sp ao o1 o2 o3 o4 : Nat} {ps ns : List Nat} {m draft_ asked_ prepared_ preparedSize_ texts_ sizes_ weights_ entries_ lies_ live_ row_ level_ oldTexts_ oldSizes_ oldLies_ oldLive_ oldRow_ firstToken_ starred_ tokenAt_ tokenSize_ groupKind_ groupPhrase_ groupSize_ groupMask_ groupFar_ out_ top_ masks_ begins_ lasts_ truth_ answers_ order_ scores_ o od : Nat} {T dl dl' dr w0 w1 w0' w1' z0 z1 zo : Nat} {gO gO' : Int32} {gR gR' gV gV' : Nat → Option Nat} {gD gD' zv zu zd zp zq zt zz yt yz : Nat → Int32} {gP gP' gQ gQ' : Nat} {gG gG' gH gH' : GT5} {gM gM' : Nat × Nat} {h h1 : xw_A} (Z : LwS A x d tx w st s1 s2 s3 s4 sv v1 v2 v3 v4 qo tk tl tz ph nd po k1 k2 k3 so sp ao o1 o2 o3 o4 ps ns m draft_ asked_ prepared_ preparedSize_ texts_ sizes_ weights_ entries_ lies_ live_ row_ level_ oldTexts_ oldSizes_ oldLies_ oldLive_ oldRow_ firstToken_ starred_ tokenAt_ tokenSize_ groupKind_ groupPhrase_ groupSize_ groupMask_ groupFar_ out_ top_ masks_ begins_ lasts_ truth_ answers_ order_ scores_ o od) (K : LwI A x d tx w st s1 s2 s3 s4 sv v1 v2 v3 v4 qo tk tl tz ph nd po k1 k2 k3 so sp ao o1 o2 o3 o4 ps ns m draft_ asked_ prepared_ preparedSize_ texts_ sizes_ weights_ entries_ lies_ live_ row_ level_ oldTexts_ oldSizes_ oldLies_ oldLive_ oldRow_ firstToken_ starred_ tokenAt_ tokenSize_ groupKind_ groupPhrase_ groupSize_ groupMask_ groupFar_ out_ top_ masks_ begins_ lasts_ truth_ answers_ order_ scores_ o od T dl dr w0 w1 z0 z1 gO gR gV gD gP gQ gG gH gM zo zv zu zd zp zq zt zz yt yz h) (p : CI A x d tx w st s1 s2 s3 s4 sv v1 v2 v3 v4 qo tk tl tz ph nd po k1 k2 k3 so sp ao o1 o2 o3 o4 ps ns dl' w0' w1' gO' gR' gV' gD' gP' gQ' gG' gH' gM' h1 ∧ FrO (CLs x d tx w st s1 s2 s3 s4 sv v1 v2 v3 v4 qo tk tl tz ph nd po k1 k2 k3 so sp ao o1 o2 o3 o4 ps ns) h h1) : LwI A x d tx w st s1 s2 s3 s4 sv v1 v2 v3 v4 qo tk tl tz ph nd po k1 k2 k3 so sp ao o1 o2 o3 o4 ps ns m draft_ asked_ prepared_ preparedSize_ texts_ sizes_ weights_ entries_ lies_ live_ row_ level_ oldTexts_ oldSizes_ oldLies_ oldLive_ oldRow_ firstToken_ starred_ tokenAt_ tokenSize_ groupKind_ groupPhrase_ groupSize_ groupMask_ groupFar_ out_ top_ masks_ begins_ lasts_ truth_ answers_ order_ scores_ o od T dl' dr w0' w1' z0 z1 gO' gR' gV' gD' gP' gQ' gG' gH' gM' zo zv zu zd zp zq zt zz yt yz h1 := by
  obtain ⟨S, NM, hMA, hoA, hodA, hD, no, noM, nod, nodM, noo⟩ := Z
  obtain ⟨KC, KR, KD, ⟨fo, eo⟩, fd, ed⟩ := K
  exact ⟨p.1, KR.fr p.2 hD, ⟨KD.1.fr p.2 (hD m List.mem_cons_self), KD.2.1.fr p.2 (hD weights_ (List.mem_of_getElem? (i := 7) rfl)), KD.2.2.1.fr p.2 (hD m List.mem_cons_self) (hD live_ (List.mem_of_getElem? (i := 10) rfl)) (hD oldLive_ (List.mem_of_getElem? (i := 16) rfl)), p.2 _ _ (hD draft_ (List.mem_of_getElem? (i := 1) rfl)) KD.2.2.2.1, KD.2.2.2.2.fr p.2 (hD prepared_ (List.mem_of_getElem? (i := 3) rfl)) (hD preparedSize_ (List.mem_of_getElem? (i := 4) rfl)) (hD texts_ (List.mem_of_getElem? (i := 5) rfl)) (hD sizes_ (List.mem_of_getElem? (i := 6) rfl)) (hD oldTexts_ (List.mem_of_getElem? (i := 13) rfl)) (hD oldSizes_ (List.mem_of_getElem? (i := 14) rfl))⟩, ⟨fo, p.2 o _ no eo⟩, fd, p.2 od _ nod ed⟩
theorem LwI.mod {A : List Nat} {x d tx w st s1 s2 s3 s4 sv v1 v2 v3 v4 qo tk tl tz ph nd po k1 k2 k3 so sp ao o1 o2 o3 o4 : Nat} {ps ns : List Nat} {m draft_ asked_ prepared_ preparedSize_ texts_ sizes_ weights_ entries_ lies_ live_ row_ level_ oldTexts_ oldSizes_ oldLies_ oldLive_ oldRow_ firstToken_ starred_ tokenAt_ tokenSize_ groupKind_ groupPhrase_ groupSize_ groupMask_ groupFar_ out_ top_ masks_ begins_ lasts_ truth_ answers_ order_ scores_ o od : Nat} {T dl dr dr' w0 w1 z0 z1 z0' z1' zo zo' : Nat} {gO : Int32} {gR gV : Nat → Option Nat} {gD zv zu zd zp zq zt zz yt yz zv' zu' zd' zp' zq' zt' zz' yt' yz' : Nat → Int32} {gP gQ : Nat} {gG gH : GT5} {gM : Nat × Nat} {h h1 : xw_A} (Z : LwS A x d tx w st s1 s2 s3 s4 sv v1 v2 v3 v4 qo tk tl tz ph nd po k1 k2 k3 so sp ao o1 o2 o3 o4 ps ns m draft_ asked_ prepared_ preparedSize_ texts_ sizes_ weights_ entries_ lies_ live_ row_ level_ oldTexts_ oldSizes_ oldLies_ oldLive_ oldRow_ firstToken_ starred_ tokenAt_ tokenSize_ groupKind_ groupPhrase_ groupSize_ groupMask_ groupFar_ out_ top_ masks_ begins_ lasts_ truth_ answers_ order_ scores_ o od) (K : LwI A x d tx w st s1 s2 s3 s4 sv v1 v2 v3 v4 qo tk tl tz ph nd po k1 k2 k3 so sp ao o1 o2 o3 o4 ps ns m draft_ asked_ prepared_ preparedSize_ texts_ sizes_ weights_ entries_ lies_ live_ row_ level_ oldTexts_ oldSizes_ oldLies_ oldLive_ oldRow_ firstToken_ starred_ tokenAt_ tokenSize_ groupKind_ groupPhrase_ groupSize_ groupMask_ groupFar_ out_ top_ masks_ begins_ lasts_ truth_ answers_ order_ scores_ o od T dl dr w0 w1 z0 z1 gO gR gV gD gP gQ gG gH gM zo zv zu zd zp zq zt zz yt yz h) (R : RI m draft_ asked_ prepared_ preparedSize_ texts_ sizes_ weights_ entries_ lies_ live_ row_ level_ oldTexts_ oldSizes_ oldLies_ oldLive_ oldRow_ firstToken_ starred_ tokenAt_ tokenSize_ groupKind_ groupPhrase_ groupSize_ groupMask_ groupFar_ out_ top_ masks_ begins_ lasts_ truth_ answers_ order_ scores_ (T + 1) h1) (r : FrO [m, draft_, asked_, prepared_, preparedSize_, texts_, sizes_, weights_, entries_, lies_, live_, row_, level_, oldTexts_, oldSizes_, oldLies_, oldLive_, oldRow_, firstToken_, starred_, tokenAt_, tokenSize_, groupKind_, groupPhrase_, groupSize_, groupMask_, groupFar_, out_, top_, masks_, begins_, lasts_, truth_, answers_, order_, scores_] h h1) (D : Rf m 10 (.int (nI dr')) h1) (W : Rw weights_ z0' z1' h1) (M : RM m live_ oldLive_ zo' zv' zu' h1) (M2 : h1 draft_ = some (.inl (0, 96, .inl zd'))) (M3 : RN prepared_ preparedSize_ texts_ sizes_ oldTexts_ oldSizes_ zp' zq' zt' zz' yt' yz' h1) : LwI A x d tx w st s1 s2 s3 s4 sv v1 v2 v3 v4 qo tk tl tz ph nd po k1 k2 k3 so sp ao o1 o2 o3 o4 ps ns m draft_ asked_ prepared_ preparedSize_ texts_ sizes_ weights_ entries_ lies_ live_ row_ level_ oldTexts_ oldSizes_ oldLies_ oldLive_ oldRow_ firstToken_ starred_ tokenAt_ tokenSize_ groupKind_ groupPhrase_ groupSize_ groupMask_ groupFar_ out_ top_ masks_ begins_ lasts_ truth_ answers_ order_ scores_ o od (T + 1) dl dr' w0 w1 z0' z1' gO gR gV gD gP gQ gG gH gM zo' zv' zu' zd' zp' zq' zt' zz' yt' yz' h1 := by
  obtain ⟨S, NM, hMA, hoA, hodA, hD, no, noM, nod, nodM, noo⟩ := Z
  obtain ⟨KC, KR, KD, ⟨fo, eo⟩, fd, ed⟩ := K
  exact ⟨KC.fr S r hMA (fun a ha hb => hD a hb ha) R.ex, R, ⟨D, W, M, M2, M3⟩, ⟨fo, r o _ noM eo⟩, fd, r od _ nodM ed⟩
theorem LwI.skip {A : List Nat} {x d tx w st s1 s2 s3 s4 sv v1 v2 v3 v4 qo tk tl tz ph nd po k1 k2 k3 so sp ao o1 o2 o3 o4 : Nat} {ps ns : List Nat} {m draft_ asked_ prepared_ preparedSize_ texts_ sizes_ weights_ entries_ lies_ live_ row_ level_ oldTexts_ oldSizes_ oldLies_ oldLive_ oldRow_ firstToken_ starred_ tokenAt_ tokenSize_ groupKind_ groupPhrase_ groupSize_ groupMask_ groupFar_ out_ top_ masks_ begins_ lasts_ truth_ answers_ order_ scores_ o od : Nat} {T dl dr w0 w1 z0 z1 zo gP gQ : Nat} {gG gH : GT5} {gM : Nat × Nat} {gO : Int32} {gR gV : Nat → Option Nat} {gD zv zu zd zp zq zt zz yt yz : Nat → Int32} {h : xw_A} (K : LwI A x d tx w st s1 s2 s3 s4 sv v1 v2 v3 v4 qo tk tl tz ph nd po k1 k2 k3 so sp ao o1 o2 o3 o4 ps ns m draft_ asked_ prepared_ preparedSize_ texts_ sizes_ weights_ entries_ lies_ live_ row_ level_ oldTexts_ oldSizes_ oldLies_ oldLive_ oldRow_ firstToken_ starred_ tokenAt_ tokenSize_ groupKind_ groupPhrase_ groupSize_ groupMask_ groupFar_ out_ top_ masks_ begins_ lasts_ truth_ answers_ order_ scores_ o od T dl dr w0 w1 z0 z1 gO gR gV gD gP gQ gG gH gM zo zv zu zd zp zq zt zz yt yz h) : LwI A x d tx w st s1 s2 s3 s4 sv v1 v2 v3 v4 qo tk tl tz ph nd po k1 k2 k3 so sp ao o1 o2 o3 o4 ps ns m draft_ asked_ prepared_ preparedSize_ texts_ sizes_ weights_ entries_ lies_ live_ row_ level_ oldTexts_ oldSizes_ oldLies_ oldLive_ oldRow_ firstToken_ starred_ tokenAt_ tokenSize_ groupKind_ groupPhrase_ groupSize_ groupMask_ groupFar_ out_ top_ masks_ begins_ lasts_ truth_ answers_ order_ scores_ o od (T + 1) dl dr w0 w1 z0 z1 gO gR gV gD gP gQ gG gH gM zo zv zu zd zp zq zt zz yt yz h := ⟨K.1, K.2.1.succ, K.2.2⟩
