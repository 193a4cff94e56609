/-! TIER S: the class's scores are the reference's -/
theorem fa_fd {fd fa : Nat → Int32} {n : Nat} {sg : PSt} {e : List EV} (hq : ∀ j, j < n → fa j = fd j) (hj : j1T fd n 9 3 0 (0, [], []) = some (sg, e)) : wds fa (spn sg.2.1) = wds fd (spn sg.2.1) ∧ phA fa sg.2.1 = phA fd sg.2.1 ∧ lqW fa sg.2.1 = lqW fd sg.2.1 := by
  have hin := read_in hj
  have sub : ∀ k, spB n (spn (sg.2.1.take k)) := fun k x hx => hin.2 x (by
    have e1 : spn sg.2.1 = spn (sg.2.1.take k) ++ spn (sg.2.1.drop k) := by rw [← spn_app, List.take_append_drop]
    rw [e1]
    exact List.mem_append_left _ hx)
  refine ⟨wds_cg hq _ hin.2, funext (fun p => ?_), funext (fun p => ?_)⟩
  · unfold phA
    rw [wds_cg hq _ (sub p)]
  · unfold lqW
    cases hx : sg.2.1[p]? with
    | none => rfl
    | some x =>
      dsimp only
      have hs : spB n x.1 := fun y hy => hin.2 y (by
        obtain ⟨a1, a2⟩ := List.getElem?_eq_some_iff.mp hx
        have e9 : sg.2.1 = sg.2.1.take p ++ x :: sg.2.1.drop (p + 1) := by rw [← a2, List.getElem_cons_drop, List.take_append_drop]
        rw [e9, spn_app]
        exact List.mem_append_right _ (by show y ∈ x.1 ++ spn (sg.2.1.drop (p + 1)); exact List.mem_append_left _ hy))
      rw [wds_cg hq _ hs]
theorem tkR_row {fv ft fz : Nat → Int32} {r : Nat} (h : ¬ fv r < 0) : ∀ k, r < k → tk1 ft fz r ≤ tkR fv ft fz k := by
  intro k
  induction k with
  | zero => intro q; omega
  | succ k ih =>
    intro q
    by_cases e : r = k
    · subst e
      rw [tkR_y h]
      omega
    · have := ih (by omega)
      rw [tkR]
      omega
theorem cn_eq {t ft fz : Nat → Int32} {ph : List PHt} {er : Nat → Option Nat} {p r c : Nat} (he : er r ≠ none) (hp : p < ph.length) (h24 : (TwR ft fz r c).length ≤ 24) : cP (QP t ph (TwR ft fz) er p r c) 32 = cnR (wds t (spn ph)) (phA t ph) (lqW t ph) (phB ph) ft fz p (r - 1) c := by
  have e1 : cP (QP t ph (TwR ft fz) er p r c) 32 = cP (SdP (wds t (spn ph)) (phA t ph p) (lqW t ph p) (phB ph p) (TwR ft fz r c)) 32 := cP_cg 32 (fun i _ => QP_iff he hp)
  rw [e1]
  have e2 := cP_ext (P := SdP (wds t (spn ph)) (phA t ph p) (lqW t ph p) (phB ph p) (TwR ft fz r c)) (n := (TwR ft fz r c).length) (fun i hi q => by
    have q1 := q.1
    have q2 := q.2.1
    omega) (32 - (TwR ft fz r c).length)
  rw [show (TwR ft fz r c).length + (32 - (TwR ft fz r c).length) = 32 by omega] at e2
  exact e2
theorem psi_eq {t ft fz : Nat → Int32} {ph : List PHt} {er : Nat → Option Nat} {p r : Nat} (he : er r ≠ none) (hp : p < ph.length) (h24 : ∀ c, c < 2 → (TwR ft fz r c).length ≤ 24) : PSI (QP t ph (TwR ft fz) er) p r ↔ 0 < cnR (wds t (spn ph)) (phA t ph) (lqW t ph) (phB ph) ft fz p (r - 1) 0 + cnR (wds t (spn ph)) (phA t ph) (lqW t ph) (phB ph) ft fz p (r - 1) 1 := by
  rw [← cn_eq he hp (h24 0 (by decide)), ← cn_eq he hp (h24 1 (by decide))]
  constructor
  · rintro ⟨c, hc, i, hi, q⟩
    refine Nat.pos_of_ne_zero (fun z => ?_)
    rcases (show c = 0 ∨ c = 1 by omega) with rfl | rfl
    · exact (cP_zero 32).mp (by omega) i hi q
    · exact (cP_zero 32).mp (show cP (QP t ph (TwR ft fz) er p r 1) 32 = 0 by omega) i hi q
  · intro h
    refine Classical.byContradiction (fun z => ?_)
    have z0 : cP (QP t ph (TwR ft fz) er p r 0) 32 = 0 := (cP_zero 32).mpr (fun i hi q => z ⟨0, by decide, i, hi, q⟩)
    have z1 : cP (QP t ph (TwR ft fz) er p r 1) 32 = 0 := (cP_zero 32).mpr (fun i hi q => z ⟨1, by decide, i, hi, q⟩)
    omega
theorem tk_eq {ft fz fv : Nat → Int32} {er : Nat → Option Nat} (oc : ∀ r, 1 ≤ r → r ≤ 24 → (er r = none ↔ fv (r - 1) < 0)) : ∀ k, k ≤ 24 → tkT er (TwR ft fz) k = tkR fv ft fz k := by
  intro k
  induction k with
  | zero => intro _; rfl
  | succ k ih =>
    intro hk
    have o := oc (k + 1) (by omega) hk
    rw [Nat.add_sub_cancel] at o
    rw [tkT, ih (by omega)]
    cases he : er (k + 1) with
    | none => rw [tkR_n (o.mp he)]; rfl
    | some a => rw [tkR_y (fun z => by rw [o.mpr z] at he; cases he)]; rfl
theorem scs_eq {fd fa ft fz fv : Nat → Int32} {n w0 w1 r : Nat} {sg : PSt} {e : List EV} {er : Nat → Option Nat} {rc : Nat} (hq : ∀ j, j < n → fa j = fd j) (hj : j1T fd n 9 3 0 (0, [], []) = some (sg, e)) (h24 : ∀ r c, r < 24 → c < 2 → (Tw ft fz r c).length ≤ 24) (oc : ∀ r, 1 ≤ r → r ≤ 24 → (er r = none ↔ fv (r - 1) < 0)) (hrc : rc = cntL fv 24) (hr1 : 1 ≤ r) (hr2 : r ≤ 24) (he : er r ≠ none) :
    scR (QP fd sg.2.1 (TwR ft fz) er) w0 w1 rc (tkT er (TwR ft fz) 24) sg.2.1.length ((TwR ft fz r 0).length + (TwR ft fz r 1).length) r = scM (wds fa (spn sg.2.1)) (phA fa sg.2.1) (lqW fa sg.2.1) (phB sg.2.1) ft fz fv w0 w1 sg.2.1.length (r - 1) := by
  obtain ⟨e1, e2, e3⟩ := fa_fd hq hj
  rw [e1, e2, e3, tk_eq oc 24 (Nat.le_refl _)]
  have hcn : ∀ p, p < sg.2.1.length → ∀ k, 1 ≤ k → k ≤ 24 → er k ≠ none → ∀ c, c < 2 → cP (QP fd sg.2.1 (TwR ft fz) er p k c) 32 = cnR (wds fd (spn sg.2.1)) (phA fd sg.2.1) (lqW fd sg.2.1) (phB sg.2.1) ft fz p (k - 1) c := fun p hp k k1 k2 hk c hc => cn_eq hk hp (h24 (k - 1) c (by omega) hc)
  have hf : ∀ p, p < sg.2.1.length → frq (QP fd sg.2.1 (TwR ft fz) er) w0 w1 p r = fqR (wds fd (spn sg.2.1)) (phA fd sg.2.1) (lqW fd sg.2.1) (phB sg.2.1) ft fz w0 w1 p (r - 1) := fun p hp => by
    unfold frq fqR
    rw [hcn p hp r hr1 hr2 he 0 (by decide), hcn p hp r hr1 hr2 he 1 (by decide), Nat.mul_comm _ w0, Nat.mul_comm _ w1]
  have hw : ∀ p, p < sg.2.1.length → wiQ (QP fd sg.2.1 (TwR ft fz) er) p = wiR (wds fd (spn sg.2.1)) (phA fd sg.2.1) (lqW fd sg.2.1) (phB sg.2.1) ft fz fv p 24 := fun p hp => by
    unfold wiQ wiR
    refine cP_cg 24 (fun k hk => ?_)
    have o := oc (k + 1) (by omega) (by omega)
    rw [Nat.add_sub_cancel] at o
    by_cases q : er (k + 1) = none
    · exact ⟨fun ⟨c, _, i, _, z⟩ => absurd q z.1, fun z => absurd (o.mp q) z.1⟩
    · have h9 := psi_eq (t := fd) (p := p) q hp (fun c hc => h24 (k + 1 - 1) c (by omega) hc)
      rw [Nat.add_sub_cancel] at h9
      rw [h9]
      exact ⟨fun z => ⟨fun y => q (o.mpr y), z⟩, fun z => z.2⟩
  unfold scR scM
  have hrp : 0 < rc := by
    rw [hrc]
    exact cntL_pos (r := r - 1) (fun z => he ((oc r hr1 hr2).mpr z)) 24 (by omega)
  by_cases q : 0 < tkR fv ft fz 24
  · rw [if_pos ⟨hrp, q⟩, hrc]
    exact scN_cg _ (fun i hi => ⟨hf i hi, hw i hi⟩)
  · rw [if_neg (fun z => q z.2)]
    refine (scN_0 _ (fun i hi => ?_)).symm
    have t0 := tkR_row (ft := ft) (fz := fz) (fv := fv) (r := r - 1) (fun z => he ((oc r hr1 hr2).mpr z)) 24 (by omega)
    have t1 : tk1 ft fz (r - 1) = (Tw ft fz (r - 1) 0).length + (Tw ft fz (r - 1) 1).length := rfl
    have l0 : ∀ c, (Tw ft fz (r - 1) c).length = 0 → cnR (wds fd (spn sg.2.1)) (phA fd sg.2.1) (lqW fd sg.2.1) (phB sg.2.1) ft fz i (r - 1) c = 0 := fun c hc => by
      unfold cnR
      rw [hc]
      rfl
    show fqR _ _ _ _ ft fz w0 w1 i (r - 1) = 0
    unfold fqR
    rw [l0 0 (by omega), l0 1 (by omega), Nat.mul_zero, Nat.mul_zero]
theorem plF_lt {fo : Nat → Int32} {b : Int32} {n k : Nat} (h : ∀ i, i < n → ∃ j, fo i = nI j ∧ j < n) (hn : n ≤ 24) (hk : k < n) : plF fo b k < n := by
  by_cases q : b = 0
  · rw [plF_0 q]; exact hk
  · obtain ⟨j, e, hj⟩ := h k hk
    rw [plF_1 q, e, nI_clamp (by omega)]
    exact hj
theorem plF_cg {fo fo' : Nat → Int32} {b : Int32} {k : Nat} (h : fo k = fo' k) : plF fo b k = plF fo' b k := by
  unfold plF
  rw [h]
