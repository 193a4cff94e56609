/-! the claim: by program (wip/tools/gen11.py) -/
theorem law_all : xw_Law := by
  intro G b N xs hN hX
  refine law_begin (by first | decide | decide +kernel) (by first | decide | decide +kernel) (by first | decide | decide +kernel) (by first | decide | decide +kernel) (fun x m o od h hf => ?_)
  exact fresh8 hf (fun A d tx w st s1 s2 s3 s4 sv v1 v2 v3 v4 qo tk tl tz ph nd po k1 k2 k3 so sp ao o1 o2 o3 o4 ps ns draft_ asked_ prepared_ preparedSize_ texts_ sizes_ weights_ entries_ lies_ live_ row_ level_ oldTexts_ oldSizes_ oldLies_ oldLive_ oldRow_ firstToken_ starred_ tokenAt_ tokenSize_ groupKind_ groupPhrase_ groupSize_ groupMask_ groupFar_ out_ top_ masks_ begins_ lasts_ truth_ answers_ order_ scores_ gD zv zu zd zp zq zt zz yt yz gP gQ q9 => law_loop hX hN q9.1.1 (by first | decide | decide +kernel) (by first | decide | decide +kernel) 512 0 _ _ 0 1 1 0 _ _ gD gP gQ _ _ _ 0 zv zu zd zp zq zt zz yt yz h rfl (by first | decide | decide +kernel) (by first | decide | decide +kernel) q9.1.2 q9.2)
theorem i_vc : Claimed_1_1 ∧ Claimed_1_2 := i_vc_open law_all
