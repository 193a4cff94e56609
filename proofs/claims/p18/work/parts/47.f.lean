/-! the reference in general states: by program (wip/tools/gen5.py, gen6.py, gen7.py) -/
theorem NDl.of {l k : List Nat} (is : List Nat) (h : NDl l) (hk : ∀ i : Nat, k[i]? = (is[i]?).bind (fun x => l[x]?)) (hi : is.Nodup) : NDl k := fun i j a h1 h2 => by
  rw [hk] at h1 h2
  cases q1 : is[i]? with
  | none => rw [q1] at h1; cases h1
  | some x =>
    cases q2 : is[j]? with
    | none => rw [q2] at h2; cases h2
    | some y =>
      rw [q1, Option.bind_some] at h1
      rw [q2, Option.bind_some] at h2
      have e := h x y a h1 h2
      have hl : i < is.length := (List.getElem?_eq_some_iff.mp q1).1
      exact (List.getElem?_inj hl hi).mp (by rw [q1, q2, e])
theorem ndQ {m draft_ asked_ prepared_ preparedSize_ texts_ sizes_ weights_ entries_ lies_ live_ row_ level_ oldTexts_ oldSizes_ oldLies_ oldLive_ oldRow_ firstToken_ starred_ tokenAt_ tokenSize_ groupKind_ groupPhrase_ groupSize_ groupMask_ groupFar_ out_ top_ masks_ begins_ lasts_ truth_ answers_ order_ scores_ : Nat} (ND : NDl [m, draft_, asked_, prepared_, preparedSize_, texts_, sizes_, weights_, entries_, lies_, live_, row_, level_, oldTexts_, oldSizes_, oldLies_, oldLive_, oldRow_, firstToken_, starred_, tokenAt_, tokenSize_, groupKind_, groupPhrase_, groupSize_, groupMask_, groupFar_, out_, top_, masks_, begins_, lasts_, truth_, answers_, order_, scores_]) : NDl [m, asked_, firstToken_, starred_, tokenAt_, tokenSize_, groupKind_, groupPhrase_, groupSize_, groupMask_, groupFar_, out_, top_, masks_] := NDl.of [0, 2, 18, 19, 20, 21, 22, 23, 24, 25, 26, 27, 28, 29] ND (fun i => match i with
  | 0 => rfl
  | 1 => rfl
  | 2 => rfl
  | 3 => rfl
  | 4 => rfl
  | 5 => rfl
  | 6 => rfl
  | 7 => rfl
  | 8 => rfl
  | 9 => rfl
  | 10 => rfl
  | 11 => rfl
  | 12 => rfl
  | 13 => rfl
  | _ + 14 => rfl) (by decide)
