/-! TOTAL: written by vcg.py -/
set_option maxRecDepth 4000 in
set_option maxHeartbeats 8000000 in
theorem s_MO_turn_50 {n : Nat} {L : Int32} (hn : 8589934592 ≤ n) {x1 : Int32} {x2 : Int32} {x3 : Int32} {t : mz_St}  (ci : HI L t) (i0 : (((mz_gI t 0 34).toInt ≤ 1 ∧ (mz_gI t 0 48).toInt ≤ 0) ∨ (2 ≤ (mz_gI t 0 34).toInt ∧ (mz_gI t 0 48).toInt ≤ 2390 + 310 * (mz_gI t 0 34).toInt))) (i1 : (((mz_gI t 0 34).toInt ≤ 1 ∧ (mz_gI t 0 51).toInt ≤ 0) ∨ (2 ≤ (mz_gI t 0 34).toInt ∧ (mz_gI t 0 51).toInt ≤ 3310 * (mz_gI t 0 34).toInt - 610))) (i2 : 1 ≤ (mz_gI t 0 34).toInt) (i3 : x3.toInt = (mz_gI t 0 53).toInt - 1) (i4 : 0 ≤ x3.toInt) (i5 : 0 ≤ x2.toInt) (i6 : x2.toInt ≤ 3000) (i7 : (mz_gI t 30 (mz_gI t 0 34 - (1 : Int32)).toNatClampNeg).toInt ≤ x3.toInt) : Tp (f_MO_turn_50 n x1 x2 x3 t) (fun r => HI L r ∧ (0 < (mz_gI r 0 6).toInt ∨ (((mz_gI r 0 34).toInt ≤ 1 ∧ (mz_gI r 0 48).toInt ≤ 0) ∨ (2 ≤ (mz_gI r 0 34).toInt ∧ (mz_gI r 0 48).toInt ≤ 2390 + 310 * (mz_gI r 0 34).toInt))) ∧ (0 < (mz_gI r 0 6).toInt ∨ (((mz_gI r 0 34).toInt ≤ 1 ∧ (mz_gI r 0 51).toInt ≤ 0) ∨ (2 ≤ (mz_gI r 0 34).toInt ∧ (mz_gI r 0 51).toInt ≤ 3310 * (mz_gI r 0 34).toInt - 610))) ∧ (0 < (mz_gI r 0 6).toInt ∨ (mz_gI t 0 8).toInt ≤ (mz_gI r 0 8).toInt)) := by
  unfold f_MO_turn_50
  have b536 := FX_0_34 (HI_FX ci)
  have b537 := FX_0_48 (HI_FX ci)
  have b538 := FX_0_51 (HI_FX ci)
  have b539 := FX_0_53 (HI_FX ci)
  have b540 := FX_0_8 (HI_FX ci)
  refine Tp_if (fun h541 => ?_) (fun h541 => ?_)
  · have g542 := ti_q h541
    have i543 := ti_rg x1
    have l544 : ((7 : Int32)).toInt = 7 := rfl
    have l547 : ((1 : Int32)).toInt = 1 := rfl
    first | (have a548 : ((mz_gI t 0 53) - (1 : Int32)).toInt = (mz_gI t 0 53).toInt - ((1 : Int32)).toInt := ti_sub (by omega) (by omega)) | (have a549 := ti_rg ((mz_gI t 0 53) - (1 : Int32)))
    refine Tp_le (fun t545 E546 => ?_)
    first | (have a551 : ((mz_gI t 0 34) - (1 : Int32)).toInt = (mz_gI t 0 34).toInt - ((1 : Int32)).toInt := ti_sub (by omega) (by omega)) | (have a552 := ti_rg ((mz_gI t 0 34) - (1 : Int32)))
    have k553 := ti_cl ((mz_gI t 0 34) - (1 : Int32))
    have b554 := FX_30 (HI_FX ci) ((mz_gI t 0 34) - (1 : Int32)).toNatClampNeg
    try (have z555 := RC_top ci.2 ((mz_gI t 0 34) - (1 : Int32)).toNatClampNeg (by omega))
    have ci550 := HI_f53 ci E546 (by omega) (by omega) ((mz_gI t 0 34) - (1 : Int32)).toNatClampNeg (by omega) (by omega)
    refine Tp_so ?_
    have b556 := HI_g29 ci550 (c := 0) (p := 6) rfl
    have e557 : (mz_gI t545 0 6).toInt = (mz_gI t 0 6).toInt := by rw [E546, gI_oth _ _ (by simp)]
    have b558 := HI_g29 ci (c := 0) (p := 6) rfl
    have b559 := FX_0_8 (HI_FX ci550)
    have e560 : (mz_gI t545 0 8).toInt = (mz_gI t 0 8).toInt := by rw [E546, gI_oth _ _ (by simp)]
    have b561 := FX_0_34 (HI_FX ci550)
    have e562 : (mz_gI t545 0 34).toInt = (mz_gI t 0 34).toInt := by rw [E546, gI_oth _ _ (by simp)]
    have b563 := FX_0_48 (HI_FX ci550)
    have e564 : (mz_gI t545 0 48).toInt = (mz_gI t 0 48).toInt := by rw [E546, gI_oth _ _ (by simp)]
    have b565 := FX_0_51 (HI_FX ci550)
    have e566 : (mz_gI t545 0 51).toInt = (mz_gI t 0 51).toInt := by rw [E546, gI_oth _ _ (by simp)]
    refine ⟨ci550, ?_, ?_, ?_⟩
    · (try dsimp only) <;> first | omega | assumption
    · (try dsimp only) <;> first | omega | assumption
    · (try dsimp only) <;> first | omega | assumption
  · have g567 := ti_nq h541
    have i568 := ti_rg x1
    have l569 : ((7 : Int32)).toInt = 7 := rfl
    have i570 := ti_rg x3
    refine Tp_gd (ti_ix (by omega) (by omega)) ?_
    refine Tp_if (fun h571 => ?_) (fun h571 => ?_)
    · have g572 := ti_q h571
      have b573 := FX_40 (HI_FX ci) x3.toNatClampNeg
      have l574 : (0 : Int32).toInt = 0 := rfl
      refine Tp_gd (ti_ix (by omega) (by omega)) ?_
      refine Tp_if (fun h575 => ?_) (fun h575 => ?_)
      · have g576 := ti_q h575
        have b577 := FX_39 (HI_FX ci) x3.toNatClampNeg
        have i578 := ti_rg x2
        have l579 : ((1 : Int32)).toInt = 1 := rfl
        refine Tp_mo (s_MO_turn_90 hn ci (by omega) (by omega) (by omega) (by omega) (by omega) (by omega) (by omega) (t := t) (x1 := x1) (x2 := x2) (x3 := x3) (s0 := (1 : Int32))) (fun q580 h581 => ?_)
        obtain ⟨ci582, p583, p584, p585⟩ := h581
        have b586 := HI_g29 ci582 (c := 0) (p := 6) rfl
        have b587 := HI_g29 ci (c := 0) (p := 6) rfl
        have b588 := FX_0_8 (HI_FX ci582)
        have b589 := FX_0_34 (HI_FX ci582)
        have b590 := FX_0_48 (HI_FX ci582)
        have b591 := FX_0_51 (HI_FX ci582)
        refine ⟨ci582, ?_, ?_, ?_⟩
        · (try dsimp only) <;> first | omega | assumption
        · (try dsimp only) <;> first | omega | assumption
        · (try dsimp only) <;> first | omega | assumption
      · have g592 := ti_nq h575
        have b593 := FX_39 (HI_FX ci) x3.toNatClampNeg
        unfold f_MO_turn_89
        have i594 := ti_rg x2
        have l595 : ((0 : Int32)).toInt = 0 := rfl
        refine Tp_mo (s_MO_turn_90 hn ci (by omega) (by omega) (by omega) (by omega) (by omega) (by omega) (by omega) (t := t) (x1 := x1) (x2 := x2) (x3 := x3) (s0 := (0 : Int32))) (fun q596 h597 => ?_)
        obtain ⟨ci598, p599, p600, p601⟩ := h597
        have b602 := HI_g29 ci598 (c := 0) (p := 6) rfl
        have b603 := HI_g29 ci (c := 0) (p := 6) rfl
        have b604 := FX_0_8 (HI_FX ci598)
        have b605 := FX_0_34 (HI_FX ci598)
        have b606 := FX_0_48 (HI_FX ci598)
        have b607 := FX_0_51 (HI_FX ci598)
        refine ⟨ci598, ?_, ?_, ?_⟩
        · (try dsimp only) <;> first | omega | assumption
        · (try dsimp only) <;> first | omega | assumption
        · (try dsimp only) <;> first | omega | assumption
    · have g608 := ti_nq h571
      have b609 := FX_40 (HI_FX ci) x3.toNatClampNeg
      have l610 : (0 : Int32).toInt = 0 := rfl
      unfold f_MO_turn_89
      have i611 := ti_rg x2
      have l612 : ((0 : Int32)).toInt = 0 := rfl
      refine Tp_mo (s_MO_turn_90 hn ci (by omega) (by omega) (by omega) (by omega) (by omega) (by omega) (by omega) (t := t) (x1 := x1) (x2 := x2) (x3 := x3) (s0 := (0 : Int32))) (fun q613 h614 => ?_)
      obtain ⟨ci615, p616, p617, p618⟩ := h614
      have b619 := HI_g29 ci615 (c := 0) (p := 6) rfl
      have b620 := HI_g29 ci (c := 0) (p := 6) rfl
      have b621 := FX_0_8 (HI_FX ci615)
      have b622 := FX_0_34 (HI_FX ci615)
      have b623 := FX_0_48 (HI_FX ci615)
      have b624 := FX_0_51 (HI_FX ci615)
      refine ⟨ci615, ?_, ?_, ?_⟩
      · (try dsimp only) <;> first | omega | assumption
      · (try dsimp only) <;> first | omega | assumption
      · (try dsimp only) <;> first | omega | assumption
set_option maxRecDepth 4000 in
set_option maxHeartbeats 8000000 in
theorem s_MO_turn {n : Nat} {L : Int32} (hn : 8589934592 ≤ n) {x1 : Int32} {x2 : Int32} {t : mz_St}  (ci : HI L t) (i0 : (((mz_gI t 0 34).toInt ≤ 1 ∧ (mz_gI t 0 48).toInt ≤ 0) ∨ (2 ≤ (mz_gI t 0 34).toInt ∧ (mz_gI t 0 48).toInt ≤ 2390 + 310 * (mz_gI t 0 34).toInt))) (i1 : (((mz_gI t 0 34).toInt ≤ 1 ∧ (mz_gI t 0 51).toInt ≤ 0) ∨ (2 ≤ (mz_gI t 0 34).toInt ∧ (mz_gI t 0 51).toInt ≤ 3310 * (mz_gI t 0 34).toInt - 610))) (i2 : 1 ≤ (mz_gI t 0 34).toInt) (i3 : 0 ≤ x2.toInt) (i4 : x2.toInt ≤ 3000) : Tp (f_MO_turn n x1 x2 t) (fun r => HI L r ∧ (0 < (mz_gI r 0 6).toInt ∨ (((mz_gI r 0 34).toInt ≤ 1 ∧ (mz_gI r 0 48).toInt ≤ 0) ∨ (2 ≤ (mz_gI r 0 34).toInt ∧ (mz_gI r 0 48).toInt ≤ 2390 + 310 * (mz_gI r 0 34).toInt))) ∧ (0 < (mz_gI r 0 6).toInt ∨ (((mz_gI r 0 34).toInt ≤ 1 ∧ (mz_gI r 0 51).toInt ≤ 0) ∨ (2 ≤ (mz_gI r 0 34).toInt ∧ (mz_gI r 0 51).toInt ≤ 3310 * (mz_gI r 0 34).toInt - 610))) ∧ (0 < (mz_gI r 0 6).toInt ∨ (mz_gI t 0 8).toInt ≤ (mz_gI r 0 8).toInt)) := by
  unfold f_MO_turn
  have b625 := FX_0_34 (HI_FX ci)
  have b626 := FX_0_48 (HI_FX ci)
  have b627 := FX_0_51 (HI_FX ci)
  have b628 := FX_0_8 (HI_FX ci)
  have l629 : ((1 : Int32)).toInt = 1 := rfl
  first | (have a630 : ((mz_gI t 0 34) - (1 : Int32)).toInt = (mz_gI t 0 34).toInt - ((1 : Int32)).toInt := ti_sub (by omega) (by omega)) | (have a631 := ti_rg ((mz_gI t 0 34) - (1 : Int32)))
  refine Tp_gd (ti_ix (by omega) (by omega)) ?_
  refine Tp_if (fun h632 => ?_) (fun h632 => ?_)
  · have g633 := ti_q h632
    have b634 := FX_0_53 (HI_FX ci)
    have b635 := FX_30 (HI_FX ci) ((mz_gI t 0 34) - (1 : Int32)).toNatClampNeg
    have k636 := ti_cl ((mz_gI t 0 34) - (1 : Int32))
    try (have z637 := RC_top ci.2 ((mz_gI t 0 34) - (1 : Int32)).toNatClampNeg (by omega))
    unfold f_MO_turn_40
    have l640 : ((5 : Int32)).toInt = 5 := rfl
    have i641 := ti_rg (mz_gI t 0 63)
    refine Tp_bi (s_MO_failL hn ci (by omega) (t := t) (x1 := (5 : Int32)) (x2 := mz_gI t 0 63)) (fun q638 h639 => ?_)
    obtain ⟨ci642, E643, p644, p645⟩ := h639
    have b646 := HI_g29 ci642 (c := 0) (p := 6) rfl
    have b647 := FX_0_8 (HI_FX ci642)
    have b648 := HI_g29 ci (c := 0) (p := 6) rfl
    have b649 := HI_g23 ci642 (c := 0) (p := 60) rfl
    have e650 : (mz_gI q638 0 60).toInt = (mz_gI t 0 60).toInt := by rw [E643 _ _ (by simp)]
    have b651 := HI_g23 ci (c := 0) (p := 60) rfl
    refine Tp_so ?_
    have b652 := FX_0_34 (HI_FX ci642)
    have e653 : (mz_gI q638 0 34).toInt = (mz_gI t 0 34).toInt := by rw [E643 _ _ (by simp)]
    have b654 := FX_0_48 (HI_FX ci642)
    have e655 : (mz_gI q638 0 48).toInt = (mz_gI t 0 48).toInt := by rw [E643 _ _ (by simp)]
    have b656 := FX_0_51 (HI_FX ci642)
    have e657 : (mz_gI q638 0 51).toInt = (mz_gI t 0 51).toInt := by rw [E643 _ _ (by simp)]
    refine ⟨ci642, ?_, ?_, ?_⟩
    · (try dsimp only) <;> first | omega | assumption
    · (try dsimp only) <;> first | omega | assumption
    · (try dsimp only) <;> first | omega | assumption
  · have g658 := ti_nq h632
    have b659 := FX_0_53 (HI_FX ci)
    have b660 := FX_30 (HI_FX ci) ((mz_gI t 0 34) - (1 : Int32)).toNatClampNeg
    have k661 := ti_cl ((mz_gI t 0 34) - (1 : Int32))
    try (have z662 := RC_top ci.2 ((mz_gI t 0 34) - (1 : Int32)).toNatClampNeg (by omega))
    refine Tp_if (fun h663 => ?_) (fun h663 => ?_)
    · have g664 := ti_q h663
      have i665 := ti_rg x1
      have l666 : ((7 : Int32)).toInt = 7 := rfl
      have i667 := ti_rg x2
      first | (have a668 : ((mz_gI t 0 53) - (1 : Int32)).toInt = (mz_gI t 0 53).toInt - ((1 : Int32)).toInt := ti_sub (by omega) (by omega)) | (have a669 := ti_rg ((mz_gI t 0 53) - (1 : Int32)))
      refine Tp_mo (s_MO_turn_50 hn ci (by omega) (by omega) (by omega) (by omega) (by omega) (by omega) (by omega) (by omega) (t := t) (x1 := x1) (x2 := x2) (x3 := (mz_gI t 0 53) - (1 : Int32))) (fun q670 h671 => ?_)
      obtain ⟨ci672, p673, p674, p675⟩ := h671
      have b676 := HI_g29 ci672 (c := 0) (p := 6) rfl
      have b677 := HI_g29 ci (c := 0) (p := 6) rfl
      have b678 := FX_0_8 (HI_FX ci672)
      have b679 := FX_0_34 (HI_FX ci672)
      have b680 := FX_0_48 (HI_FX ci672)
      have b681 := FX_0_51 (HI_FX ci672)
      refine ⟨ci672, ?_, ?_, ?_⟩
      · (try dsimp only) <;> first | omega | assumption
      · (try dsimp only) <;> first | omega | assumption
      · (try dsimp only) <;> first | omega | assumption
    · have g682 := ti_nq h663
      have i683 := ti_rg x1
      have l684 : ((7 : Int32)).toInt = 7 := rfl
      first | (have a685 : ((mz_gI t 0 53) - (1 : Int32)).toInt = (mz_gI t 0 53).toInt - ((1 : Int32)).toInt := ti_sub (by omega) (by omega)) | (have a686 := ti_rg ((mz_gI t 0 53) - (1 : Int32)))
      refine Tp_gd (ti_ix (by omega) (by omega)) ?_
      refine Tp_if (fun h687 => ?_) (fun h687 => ?_)
      · have g688 := ti_q h687
        have b689 := FX_41 (HI_FX ci) ((mz_gI t 0 53) - (1 : Int32)).toNatClampNeg
        have l690 : (0 : Int32).toInt = 0 := rfl
        have i691 := ti_rg x2
        refine Tp_mo (s_MO_turn_50 hn ci (by omega) (by omega) (by omega) (by omega) (by omega) (by omega) (by omega) (by omega) (t := t) (x1 := x1) (x2 := x2) (x3 := (mz_gI t 0 53) - (1 : Int32))) (fun q692 h693 => ?_)
        obtain ⟨ci694, p695, p696, p697⟩ := h693
        have b698 := HI_g29 ci694 (c := 0) (p := 6) rfl
        have b699 := HI_g29 ci (c := 0) (p := 6) rfl
        have b700 := FX_0_8 (HI_FX ci694)
        have b701 := FX_0_34 (HI_FX ci694)
        have b702 := FX_0_48 (HI_FX ci694)
        have b703 := FX_0_51 (HI_FX ci694)
        refine ⟨ci694, ?_, ?_, ?_⟩
        · (try dsimp only) <;> first | omega | assumption
        · (try dsimp only) <;> first | omega | assumption
        · (try dsimp only) <;> first | omega | assumption
      · have g704 := ti_nq h687
        have b705 := FX_41 (HI_FX ci) ((mz_gI t 0 53) - (1 : Int32)).toNatClampNeg
        have l706 : (0 : Int32).toInt = 0 := rfl
        unfold f_MO_turn_40
        have l709 : ((5 : Int32)).toInt = 5 := rfl
        have i710 := ti_rg (mz_gI t 0 63)
        refine Tp_bi (s_MO_failL hn ci (by omega) (t := t) (x1 := (5 : Int32)) (x2 := mz_gI t 0 63)) (fun q707 h708 => ?_)
        obtain ⟨ci711, E712, p713, p714⟩ := h708
        have b715 := HI_g29 ci711 (c := 0) (p := 6) rfl
        have b716 := FX_0_8 (HI_FX ci711)
        have b717 := HI_g29 ci (c := 0) (p := 6) rfl
        have b718 := HI_g23 ci711 (c := 0) (p := 60) rfl
        have e719 : (mz_gI q707 0 60).toInt = (mz_gI t 0 60).toInt := by rw [E712 _ _ (by simp)]
        have b720 := HI_g23 ci (c := 0) (p := 60) rfl
        refine Tp_so ?_
        have b721 := FX_0_34 (HI_FX ci711)
        have e722 : (mz_gI q707 0 34).toInt = (mz_gI t 0 34).toInt := by rw [E712 _ _ (by simp)]
        have b723 := FX_0_48 (HI_FX ci711)
        have e724 : (mz_gI q707 0 48).toInt = (mz_gI t 0 48).toInt := by rw [E712 _ _ (by simp)]
        have b725 := FX_0_51 (HI_FX ci711)
        have e726 : (mz_gI q707 0 51).toInt = (mz_gI t 0 51).toInt := by rw [E712 _ _ (by simp)]
        refine ⟨ci711, ?_, ?_, ?_⟩
        · (try dsimp only) <;> first | omega | assumption
        · (try dsimp only) <;> first | omega | assumption
        · (try dsimp only) <;> first | omega | assumption
set_option maxRecDepth 4000 in
set_option maxHeartbeats 8000000 in
theorem l_MO_ifSame_125 {n : Nat} {L : Int32} (hn : 8589934592 ≤ n)  : ∀ (k : Nat) (x2 : Int32) (x3 : Int32) (x4 : Int32) (x5 : Int32) (x6 : Int32) (t : mz_St), HI L t → (0 ≤ x2.toInt) → (x2.toInt ≤ 20000) → (0 ≤ x3.toInt) → (x3.toInt ≤ 48000) → (0 ≤ x6.toInt) → (1 ≤ (mz_gI t 0 34).toInt) → ((((mz_gI t 0 34).toInt ≤ 1 ∧ x2.toInt ≤ 0) ∨ (2 ≤ (mz_gI t 0 34).toInt ∧ x2.toInt ≤ 2390 + 310 * (mz_gI t 0 34).toInt))) → ((((mz_gI t 0 34).toInt ≤ 1 ∧ x3.toInt ≤ 0) ∨ (2 ≤ (mz_gI t 0 34).toInt ∧ x3.toInt ≤ 3310 * (mz_gI t 0 34).toInt - 610))) → (x4.toInt ≤ (mz_gI t 36 (x2).toNatClampNeg).toInt - (mz_gI t 35 (x2).toNatClampNeg).toInt) → ((x5.toInt = 0 ∨ x4.toInt ≤ (mz_gI t 36 (x2 + (1 : Int32)).toNatClampNeg).toInt - (mz_gI t 35 (x2 + (1 : Int32)).toNatClampNeg).toInt)) → (2147483648 - x6.toInt).toNat < k → Tp (f_MO_ifSame_125 n k x2 x3 x4 x5 x6 t) (fun r => HI L r ∧ (0 < (mz_gI r 0 6).toInt ∨ (((mz_gI r 0 34).toInt ≤ 1 ∧ (mz_gI r 0 48).toInt ≤ 0) ∨ (2 ≤ (mz_gI r 0 34).toInt ∧ (mz_gI r 0 48).toInt ≤ 2390 + 310 * (mz_gI r 0 34).toInt))) ∧ (0 < (mz_gI r 0 6).toInt ∨ (((mz_gI r 0 34).toInt ≤ 1 ∧ (mz_gI r 0 51).toInt ≤ 0) ∨ (2 ≤ (mz_gI r 0 34).toInt ∧ (mz_gI r 0 51).toInt ≤ 3310 * (mz_gI r 0 34).toInt - 610))) ∧ (0 < (mz_gI r 0 6).toInt ∨ (mz_gI t 0 8).toInt ≤ (mz_gI r 0 8).toInt)) := by
  intro k
  induction k with
  | zero => intros; omega
  | succ k ih =>
    intro x2 x3 x4 x5 x6 t ci i0 i1 i2 i3 i4 i5 i6 i7 i8 i9 hm
    unfold f_MO_ifSame_125
    have b727 := FX_36 (HI_FX ci) x2.toNatClampNeg
    have b728 := FX_36 (HI_FX ci) (x2 + (1 : Int32)).toNatClampNeg
    have b729 := FX_35 (HI_FX ci) x2.toNatClampNeg
    have b730 := FX_35 (HI_FX ci) (x2 + (1 : Int32)).toNatClampNeg
    have b731 := FX_0_34 (HI_FX ci)
    have b732 := FX_0_8 (HI_FX ci)
    refine Tp_if (fun h733 => ?_) (fun h733 => ?_)
    · have g734 := ti_e h733
      have i735 := ti_rg x4
      have i736 := ti_rg x6
      unfold f_MO_ifSame_183
      have i739 := ti_rg x2
      refine Tp_le (fun t737 E738 => ?_)
      have ci740 := HI_f48 ci E738 (by omega) (by omega)
      have i743 := ti_rg x3
      refine Tp_le (fun t741 E742 => ?_)
      have ci744 := HI_f51 ci740 E742 (by omega) (by omega)
      have i747 := ti_rg x5
      have l748 : ((0 : Int32)).toInt = 0 := rfl
      have b749 := FX_0_34 (HI_FX ci744)
      have e750 : (mz_gI t741 0 34).toInt = (mz_gI t737 0 34).toInt := by rw [E742, gI_oth _ _ (by simp)]
      have b751 := FX_0_34 (HI_FX ci740)
      have e752 : (mz_gI t737 0 34).toInt = (mz_gI t 0 34).toInt := by rw [E738, gI_oth _ _ (by simp)]
      have b753 := FX_0_48 (HI_FX ci744)
      have e754 : (mz_gI t741 0 48).toInt = (mz_gI t737 0 48).toInt := by rw [E742, gI_oth _ _ (by simp)]
      have b755 := FX_0_48 (HI_FX ci740)
      have e756 : (mz_gI t737 0 48).toInt = (x2).toInt := by rw [E738, gI_same]
      have b757 := FX_0_51 (HI_FX ci744)
      have e758 : (mz_gI t741 0 51).toInt = (x3).toInt := by rw [E742, gI_same]
      refine Tp_bi (s_MO_openIf hn ci744 (by omega) (by omega) (by omega) (t := t741) (x1 := x5) (x2 := (0 : Int32))) (fun q745 h746 => ?_)
      obtain ⟨ci759, p760, p761, p762⟩ := h746
      have b763 := FX_0_8 (HI_FX ci744)
      have e764 : (mz_gI t741 0 8).toInt = (mz_gI t737 0 8).toInt := by rw [E742, gI_oth _ _ (by simp)]
      have b765 := FX_0_8 (HI_FX ci740)
      have e766 : (mz_gI t737 0 8).toInt = (mz_gI t 0 8).toInt := by rw [E738, gI_oth _ _ (by simp)]
      have b767 := HI_g29 ci759 (c := 0) (p := 6) rfl
      have b768 := HI_g29 ci744 (c := 0) (p := 6) rfl
      have e769 : (mz_gI t741 0 6).toInt = (mz_gI t737 0 6).toInt := by rw [E742, gI_oth _ _ (by simp)]
      have b770 := HI_g29 ci740 (c := 0) (p := 6) rfl
      have e771 : (mz_gI t737 0 6).toInt = (mz_gI t 0 6).toInt := by rw [E738, gI_oth _ _ (by simp)]
      have b772 := HI_g29 ci (c := 0) (p := 6) rfl
      have b773 := FX_0_8 (HI_FX ci759)
      have b774 := FX_0_34 (HI_FX ci759)
      have b775 := FX_0_48 (HI_FX ci759)
      have b776 := FX_0_51 (HI_FX ci759)
      refine Tp_so ?_
      have b777 := FX_0_48 (HI_FX ci)
      have b778 := FX_0_51 (HI_FX ci)
      refine ⟨ci759, ?_, ?_, ?_⟩
      · (try dsimp only) <;> first | omega | assumption
      · (try dsimp only) <;> first | omega | assumption
      · (try dsimp only) <;> first | omega | assumption
    · have g779 := ti_ne h733
      have i780 := ti_rg x4
      have i781 := ti_rg x6
      refine Tp_if (fun h782 => ?_) (fun h782 => ?_)
      · have g783 := ti_q h782
        have i784 := ti_rg x5
        have l785 : (0 : Int32).toInt = 0 := rfl
        unfold f_MO_ifSame_183
        have i788 := ti_rg x2
        refine Tp_le (fun t786 E787 => ?_)
        have ci789 := HI_f48 ci E787 (by omega) (by omega)
        have i792 := ti_rg x3
        refine Tp_le (fun t790 E791 => ?_)
        have ci793 := HI_f51 ci789 E791 (by omega) (by omega)
        have l796 : ((0 : Int32)).toInt = 0 := rfl
        have b797 := FX_0_34 (HI_FX ci793)
        have e798 : (mz_gI t790 0 34).toInt = (mz_gI t786 0 34).toInt := by rw [E791, gI_oth _ _ (by simp)]
        have b799 := FX_0_34 (HI_FX ci789)
        have e800 : (mz_gI t786 0 34).toInt = (mz_gI t 0 34).toInt := by rw [E787, gI_oth _ _ (by simp)]
        have b801 := FX_0_48 (HI_FX ci793)
        have e802 : (mz_gI t790 0 48).toInt = (mz_gI t786 0 48).toInt := by rw [E791, gI_oth _ _ (by simp)]
        have b803 := FX_0_48 (HI_FX ci789)
        have e804 : (mz_gI t786 0 48).toInt = (x2).toInt := by rw [E787, gI_same]
        have b805 := FX_0_51 (HI_FX ci793)
        have e806 : (mz_gI t790 0 51).toInt = (x3).toInt := by rw [E791, gI_same]
        refine Tp_bi (s_MO_openIf hn ci793 (by omega) (by omega) (by omega) (t := t790) (x1 := x5) (x2 := (0 : Int32))) (fun q794 h795 => ?_)
        obtain ⟨ci807, p808, p809, p810⟩ := h795
        have b811 := FX_0_8 (HI_FX ci793)
        have e812 : (mz_gI t790 0 8).toInt = (mz_gI t786 0 8).toInt := by rw [E791, gI_oth _ _ (by simp)]
        have b813 := FX_0_8 (HI_FX ci789)
        have e814 : (mz_gI t786 0 8).toInt = (mz_gI t 0 8).toInt := by rw [E787, gI_oth _ _ (by simp)]
        have b815 := HI_g29 ci807 (c := 0) (p := 6) rfl
        have b816 := HI_g29 ci793 (c := 0) (p := 6) rfl
        have e817 : (mz_gI t790 0 6).toInt = (mz_gI t786 0 6).toInt := by rw [E791, gI_oth _ _ (by simp)]
        have b818 := HI_g29 ci789 (c := 0) (p := 6) rfl
        have e819 : (mz_gI t786 0 6).toInt = (mz_gI t 0 6).toInt := by rw [E787, gI_oth _ _ (by simp)]
        have b820 := HI_g29 ci (c := 0) (p := 6) rfl
        have b821 := FX_0_8 (HI_FX ci807)
        have b822 := FX_0_34 (HI_FX ci807)
        have b823 := FX_0_48 (HI_FX ci807)
        have b824 := FX_0_51 (HI_FX ci807)
        refine Tp_so ?_
        have b825 := FX_0_48 (HI_FX ci)
        have b826 := FX_0_51 (HI_FX ci)
        refine ⟨ci807, ?_, ?_, ?_⟩
        · (try dsimp only) <;> first | omega | assumption
        · (try dsimp only) <;> first | omega | assumption
        · (try dsimp only) <;> first | omega | assumption
      · have g827 := ti_nq h782
        have i828 := ti_rg x5
        have l829 : (0 : Int32).toInt = 0 := rfl
        have i830 := ti_rg x2
        refine Tp_gd (ti_ix (by omega) (by omega)) ?_
        first | (have a831 : ((mz_gI t 35 x2.toNatClampNeg) + x6).toInt = (mz_gI t 35 x2.toNatClampNeg).toInt + (x6).toInt := ti_add (by omega) (by omega)) | (have a832 := ti_rg ((mz_gI t 35 x2.toNatClampNeg) + x6))
        refine Tp_gd (ti_ix (by omega) (by omega)) ?_
        have l833 : ((1 : Int32)).toInt = 1 := rfl
        first | (have a834 : (x2 + (1 : Int32)).toInt = (x2).toInt + ((1 : Int32)).toInt := ti_add (by omega) (by omega)) | (have a835 := ti_rg (x2 + (1 : Int32)))
        refine Tp_gd (ti_ix (by omega) (by omega)) ?_
        first | (have a836 : ((mz_gI t 35 (x2 + (1 : Int32)).toNatClampNeg) + x6).toInt = (mz_gI t 35 (x2 + (1 : Int32)).toNatClampNeg).toInt + (x6).toInt := ti_add (by omega) (by omega)) | (have a837 := ti_rg ((mz_gI t 35 (x2 + (1 : Int32)).toNatClampNeg) + x6))
        refine Tp_gd (ti_ix (by omega) (by omega)) ?_
        refine Tp_if (fun h838 => ?_) (fun h838 => ?_)
        · have g839 := ti_q h838
          have i840 := ti_rg (mz_gI t 37 ((mz_gI t 35 x2.toNatClampNeg) + x6).toNatClampNeg)
          have i841 := ti_rg (mz_gI t 37 ((mz_gI t 35 (x2 + (1 : Int32)).toNatClampNeg) + x6).toNatClampNeg)
          unfold f_MO_ifSame_175
          have i842 := ti_rg x3
          first | (have a843 : (x6 + (1 : Int32)).toInt = (x6).toInt + ((1 : Int32)).toInt := ti_add (by omega) (by omega)) | (have a844 := ti_rg (x6 + (1 : Int32)))
          exact ih x2 x3 x4 (1 : Int32) (x6 + (1 : Int32)) t ci (by omega) (by omega) (by omega) (by omega) (by omega) (by omega) (by omega) (by omega) (by omega) (by omega) (by omega)
        · have g845 := ti_nq h838
          have i846 := ti_rg (mz_gI t 37 ((mz_gI t 35 x2.toNatClampNeg) + x6).toNatClampNeg)
          have i847 := ti_rg (mz_gI t 37 ((mz_gI t 35 (x2 + (1 : Int32)).toNatClampNeg) + x6).toNatClampNeg)
          unfold f_MO_ifSame_175
          have i848 := ti_rg x3
          have l849 : ((0 : Int32)).toInt = 0 := rfl
          first | (have a850 : (x6 + (1 : Int32)).toInt = (x6).toInt + ((1 : Int32)).toInt := ti_add (by omega) (by omega)) | (have a851 := ti_rg (x6 + (1 : Int32)))
          exact ih x2 x3 x4 (0 : Int32) (x6 + (1 : Int32)) t ci (by omega) (by omega) (by omega) (by omega) (by omega) (by omega) (by omega) (by omega) (by omega) (by omega) (by omega)
set_option maxRecDepth 4000 in
set_option maxHeartbeats 8000000 in
theorem l_MO_ifSame_5 {n : Nat} {L : Int32} (hn : 8589934592 ≤ n)  : ∀ (k : Nat) (x1 : Int32) (t : mz_St), HI L t → ((((mz_gI t 0 34).toInt ≤ 1 ∧ (mz_gI t 0 48).toInt ≤ 0) ∨ (2 ≤ (mz_gI t 0 34).toInt ∧ (mz_gI t 0 48).toInt ≤ 2390 + 310 * (mz_gI t 0 34).toInt))) → ((((mz_gI t 0 34).toInt ≤ 1 ∧ (mz_gI t 0 51).toInt ≤ 0) ∨ (2 ≤ (mz_gI t 0 34).toInt ∧ (mz_gI t 0 51).toInt ≤ 3310 * (mz_gI t 0 34).toInt - 610))) → (1 ≤ (mz_gI t 0 34).toInt) → ((¬ (mz_gI t 0 34).toInt = 1 ∨ (mz_gI t 0 60).toInt ≤ 3000)) → (((mz_gI t 0 34).toInt ≤ 1 ∨ (mz_gI t 0 60).toInt ≤ 300)) → ((mz_gI t 0 61).toInt ≤ x1.toInt) → (x1.toInt ≤ (mz_gI t 0 60).toInt) → (2147483648 - x1.toInt).toNat < k → Tp (f_MO_ifSame_5 n k x1 t) (fun r => HI L r ∧ (0 < (mz_gI r 0 6).toInt ∨ (((mz_gI r 0 34).toInt ≤ 1 ∧ (mz_gI r 0 48).toInt ≤ 0) ∨ (2 ≤ (mz_gI r 0 34).toInt ∧ (mz_gI r 0 48).toInt ≤ 2390 + 310 * (mz_gI r 0 34).toInt))) ∧ (0 < (mz_gI r 0 6).toInt ∨ (((mz_gI r 0 34).toInt ≤ 1 ∧ (mz_gI r 0 51).toInt ≤ 0) ∨ (2 ≤ (mz_gI r 0 34).toInt ∧ (mz_gI r 0 51).toInt ≤ 3310 * (mz_gI r 0 34).toInt - 610))) ∧ (0 < (mz_gI r 0 6).toInt ∨ (mz_gI t 0 8).toInt ≤ (mz_gI r 0 8).toInt)) := by
  intro k
  induction k with
  | zero => intros; omega
  | succ k ih =>
    intro x1 t ci i0 i1 i2 i3 i4 i5 i6 hm
    unfold f_MO_ifSame_5
    have b852 := FX_0_34 (HI_FX ci)
    have b853 := FX_0_48 (HI_FX ci)
    have b854 := FX_0_51 (HI_FX ci)
    have b855 := HI_g23 ci (c := 0) (p := 60) rfl
    have b856 := HI_g24 ci (c := 0) (p := 61) rfl
    have b857 := FX_0_8 (HI_FX ci)
    refine Tp_if (fun h858 => ?_) (fun h858 => ?_)
    · have g859 := ti_e h858
      have i860 := ti_rg x1
      unfold f_MO_ifSame_30
      refine Tp_if (fun h861 => ?_) (fun h861 => ?_)
      · have g862 := ti_q h861
        have l865 : ((1 : Int32)).toInt = 1 := rfl
        have i866 := ti_rg (mz_gI t 0 63)
        refine Tp_bi (s_MO_failL hn ci (by omega) (t := t) (x1 := (1 : Int32)) (x2 := mz_gI t 0 63)) (fun q863 h864 => ?_)
        obtain ⟨ci867, E868, p869, p870⟩ := h864
        have b871 := HI_g29 ci867 (c := 0) (p := 6) rfl
        have b872 := FX_0_8 (HI_FX ci867)
        have b873 := HI_g29 ci (c := 0) (p := 6) rfl
        have b874 := HI_g23 ci867 (c := 0) (p := 60) rfl
        have e875 : (mz_gI q863 0 60).toInt = (mz_gI t 0 60).toInt := by rw [E868 _ _ (by simp)]
        refine Tp_so ?_
        have b876 := FX_0_34 (HI_FX ci867)
        have e877 : (mz_gI q863 0 34).toInt = (mz_gI t 0 34).toInt := by rw [E868 _ _ (by simp)]
        have b878 := FX_0_48 (HI_FX ci867)
        have e879 : (mz_gI q863 0 48).toInt = (mz_gI t 0 48).toInt := by rw [E868 _ _ (by simp)]
        have b880 := FX_0_51 (HI_FX ci867)
        have e881 : (mz_gI q863 0 51).toInt = (mz_gI t 0 51).toInt := by rw [E868 _ _ (by simp)]
        refine ⟨ci867, ?_, ?_, ?_⟩
        · (try dsimp only) <;> first | omega | assumption
        · (try dsimp only) <;> first | omega | assumption
        · (try dsimp only) <;> first | omega | assumption
      · have g882 := ti_nq h861
        refine Tp_bi (s_MO_hold hn (HI_NI ci) (by omega) (by omega) (by omega) (by omega) (by omega) (t := t) (x1 := mz_gI t 0 61) (x2 := x1)) (fun q883 h884 => ?_)
        obtain ⟨mi891, p886, p887, p888, p889, p890⟩ := h884
        have ci885 := HI_trN ci mi891
        have b892 := HI_g2 ci (c := 0) (p := 62) rfl
        have b893 := FX_0_48 (HI_FX ci885)
        have b894 := FX_0_51 (HI_FX ci885)
        have b895 := HI_g24 ci885 (c := 0) (p := 61) rfl
        have b896 := HI_g2 ci885 (c := 0) (p := 62) rfl
        have l899 : ((1 : Int32)).toInt = 1 := rfl
        first | (have a900 : (x1 + (1 : Int32)).toInt = (x1).toInt + ((1 : Int32)).toInt := ti_add (by omega) (by omega)) | (have a901 := ti_rg (x1 + (1 : Int32)))
        have b902 := HI_g23 ci885 (c := 0) (p := 60) rfl
        have e903 : (mz_gI q883 0 60).toInt = (mz_gI t 0 60).toInt := NI_13 mi891 rfl
        refine Tp_bi (s_MO_hold hn (HI_NI ci885) (by omega) (by omega) (by omega) (by omega) (by omega) (t := q883) (x1 := x1 + (1 : Int32)) (x2 := mz_gI q883 0 60)) (fun q897 h898 => ?_)
        obtain ⟨mi910, p905, p906, p907, p908, p909⟩ := h898
        have ci904 := HI_trN ci885 mi910
        have b911 := FX_0_48 (HI_FX ci904)
        have b912 := FX_0_51 (HI_FX ci904)
        have b913 := HI_g24 ci904 (c := 0) (p := 61) rfl
        have b914 := HI_g2 ci904 (c := 0) (p := 62) rfl
        refine Tp_gd (ti_ix (by omega) (by omega)) ?_
        refine Tp_gd (ti_ix (by omega) (by omega)) ?_
        first | (have a915 : ((mz_gI t 0 48) + (1 : Int32)).toInt = (mz_gI t 0 48).toInt + ((1 : Int32)).toInt := ti_add (by omega) (by omega)) | (have a916 := ti_rg ((mz_gI t 0 48) + (1 : Int32)))
        refine Tp_gd (ti_ix (by omega) (by omega)) ?_
        refine Tp_gd (ti_ix (by omega) (by omega)) ?_
        refine Tp_if (fun h917 => ?_) (fun h917 => ?_)
        · have g918 := ti_q h917
          have b919 := FX_36 (HI_FX ci904) (mz_gI t 0 48).toNatClampNeg
          have b920 := FX_35 (HI_FX ci904) (mz_gI t 0 48).toNatClampNeg
          first | (have a921 : ((mz_gI q897 36 (mz_gI t 0 48).toNatClampNeg) - (mz_gI q897 35 (mz_gI t 0 48).toNatClampNeg)).toInt = (mz_gI q897 36 (mz_gI t 0 48).toNatClampNeg).toInt - (mz_gI q897 35 (mz_gI t 0 48).toNatClampNeg).toInt := ti_sub (by omega) (by omega)) | (have a922 := ti_rg ((mz_gI q897 36 (mz_gI t 0 48).toNatClampNeg) - (mz_gI q897 35 (mz_gI t 0 48).toNatClampNeg)))
          have b923 := FX_36 (HI_FX ci904) ((mz_gI t 0 48) + (1 : Int32)).toNatClampNeg
          have b924 := FX_35 (HI_FX ci904) ((mz_gI t 0 48) + (1 : Int32)).toNatClampNeg
          first | (have a925 : ((mz_gI q897 36 ((mz_gI t 0 48) + (1 : Int32)).toNatClampNeg) - (mz_gI q897 35 ((mz_gI t 0 48) + (1 : Int32)).toNatClampNeg)).toInt = (mz_gI q897 36 ((mz_gI t 0 48) + (1 : Int32)).toNatClampNeg).toInt - (mz_gI q897 35 ((mz_gI t 0 48) + (1 : Int32)).toNatClampNeg).toInt := ti_sub (by omega) (by omega)) | (have a926 := ti_rg ((mz_gI q897 36 ((mz_gI t 0 48) + (1 : Int32)).toNatClampNeg) - (mz_gI q897 35 ((mz_gI t 0 48) + (1 : Int32)).toNatClampNeg)))
          unfold f_MO_ifSame_120
          have l927 : ((0 : Int32)).toInt = 0 := rfl
          have b928 := FX_0_34 (HI_FX ci904)
          have e929 : (mz_gI q897 0 34).toInt = (mz_gI q883 0 34).toInt := NI_13 mi910 rfl
          have b930 := FX_0_34 (HI_FX ci885)
          have e931 : (mz_gI q883 0 34).toInt = (mz_gI t 0 34).toInt := NI_13 mi891 rfl
          refine Tp_mo (l_MO_ifSame_125 hn  n (mz_gI t 0 48) (mz_gI t 0 51) ((mz_gI q897 36 (mz_gI t 0 48).toNatClampNeg) - (mz_gI q897 35 (mz_gI t 0 48).toNatClampNeg)) (1 : Int32) (0 : Int32) q897 ci904 (by omega) (by omega) (by omega) (by omega) (by omega) (by omega) (by omega) (by omega) (by omega) (by omega) (by omega)) (fun q932 h933 => ?_)
          obtain ⟨ci934, p935, p936, p937⟩ := h933
          have b938 := FX_0_8 (HI_FX ci904)
          have e939 : (mz_gI q897 0 8).toInt = (mz_gI q883 0 8).toInt := NI_13 mi910 rfl
          have b940 := FX_0_8 (HI_FX ci885)
          have e941 : (mz_gI q883 0 8).toInt = (mz_gI t 0 8).toInt := NI_13 mi891 rfl
          have b942 := HI_g29 ci934 (c := 0) (p := 6) rfl
          have b943 := HI_g29 ci904 (c := 0) (p := 6) rfl
          have e944 : (mz_gI q897 0 6).toInt = (mz_gI q883 0 6).toInt := NI_13 mi910 rfl
          have b945 := HI_g29 ci885 (c := 0) (p := 6) rfl
          have e946 : (mz_gI q883 0 6).toInt = (mz_gI t 0 6).toInt := NI_13 mi891 rfl
          have b947 := HI_g29 ci (c := 0) (p := 6) rfl
          have b948 := FX_0_8 (HI_FX ci934)
          have b949 := FX_0_34 (HI_FX ci934)
          have b950 := FX_0_48 (HI_FX ci934)
          have b951 := FX_0_51 (HI_FX ci934)
          refine ⟨ci934, ?_, ?_, ?_⟩
          · (try dsimp only) <;> first | omega | assumption
          · (try dsimp only) <;> first | omega | assumption
          · (try dsimp only) <;> first | omega | assumption
        · have g952 := ti_nq h917
          have b953 := FX_36 (HI_FX ci904) (mz_gI t 0 48).toNatClampNeg
          have b954 := FX_35 (HI_FX ci904) (mz_gI t 0 48).toNatClampNeg
          first | (have a955 : ((mz_gI q897 36 (mz_gI t 0 48).toNatClampNeg) - (mz_gI q897 35 (mz_gI t 0 48).toNatClampNeg)).toInt = (mz_gI q897 36 (mz_gI t 0 48).toNatClampNeg).toInt - (mz_gI q897 35 (mz_gI t 0 48).toNatClampNeg).toInt := ti_sub (by omega) (by omega)) | (have a956 := ti_rg ((mz_gI q897 36 (mz_gI t 0 48).toNatClampNeg) - (mz_gI q897 35 (mz_gI t 0 48).toNatClampNeg)))
          have b957 := FX_36 (HI_FX ci904) ((mz_gI t 0 48) + (1 : Int32)).toNatClampNeg
          have b958 := FX_35 (HI_FX ci904) ((mz_gI t 0 48) + (1 : Int32)).toNatClampNeg
          first | (have a959 : ((mz_gI q897 36 ((mz_gI t 0 48) + (1 : Int32)).toNatClampNeg) - (mz_gI q897 35 ((mz_gI t 0 48) + (1 : Int32)).toNatClampNeg)).toInt = (mz_gI q897 36 ((mz_gI t 0 48) + (1 : Int32)).toNatClampNeg).toInt - (mz_gI q897 35 ((mz_gI t 0 48) + (1 : Int32)).toNatClampNeg).toInt := ti_sub (by omega) (by omega)) | (have a960 := ti_rg ((mz_gI q897 36 ((mz_gI t 0 48) + (1 : Int32)).toNatClampNeg) - (mz_gI q897 35 ((mz_gI t 0 48) + (1 : Int32)).toNatClampNeg)))
          unfold f_MO_ifSame_120
          have l961 : ((0 : Int32)).toInt = 0 := rfl
          have b962 := FX_0_34 (HI_FX ci904)
          have e963 : (mz_gI q897 0 34).toInt = (mz_gI q883 0 34).toInt := NI_13 mi910 rfl
          have b964 := FX_0_34 (HI_FX ci885)
          have e965 : (mz_gI q883 0 34).toInt = (mz_gI t 0 34).toInt := NI_13 mi891 rfl
          refine Tp_mo (l_MO_ifSame_125 hn  n (mz_gI t 0 48) (mz_gI t 0 51) ((mz_gI q897 36 (mz_gI t 0 48).toNatClampNeg) - (mz_gI q897 35 (mz_gI t 0 48).toNatClampNeg)) (0 : Int32) (0 : Int32) q897 ci904 (by omega) (by omega) (by omega) (by omega) (by omega) (by omega) (by omega) (by omega) (by omega) (by omega) (by omega)) (fun q966 h967 => ?_)
          obtain ⟨ci968, p969, p970, p971⟩ := h967
          have b972 := FX_0_8 (HI_FX ci904)
          have e973 : (mz_gI q897 0 8).toInt = (mz_gI q883 0 8).toInt := NI_13 mi910 rfl
          have b974 := FX_0_8 (HI_FX ci885)
          have e975 : (mz_gI q883 0 8).toInt = (mz_gI t 0 8).toInt := NI_13 mi891 rfl
          have b976 := HI_g29 ci968 (c := 0) (p := 6) rfl
          have b977 := HI_g29 ci904 (c := 0) (p := 6) rfl
          have e978 : (mz_gI q897 0 6).toInt = (mz_gI q883 0 6).toInt := NI_13 mi910 rfl
          have b979 := HI_g29 ci885 (c := 0) (p := 6) rfl
          have e980 : (mz_gI q883 0 6).toInt = (mz_gI t 0 6).toInt := NI_13 mi891 rfl
          have b981 := HI_g29 ci (c := 0) (p := 6) rfl
          have b982 := FX_0_8 (HI_FX ci968)
          have b983 := FX_0_34 (HI_FX ci968)
          have b984 := FX_0_48 (HI_FX ci968)
          have b985 := FX_0_51 (HI_FX ci968)
          refine ⟨ci968, ?_, ?_, ?_⟩
          · (try dsimp only) <;> first | omega | assumption
          · (try dsimp only) <;> first | omega | assumption
          · (try dsimp only) <;> first | omega | assumption
    · have g986 := ti_ne h858
      have i987 := ti_rg x1
      refine Tp_gd (ti_ix (by omega) (by omega)) ?_
      refine Tp_if (fun h988 => ?_) (fun h988 => ?_)
      · have g989 := ti_q h988
        have i990 := ti_rg (mz_gI t 43 x1.toNatClampNeg)
        have l991 : ((44 : Int32)).toInt = 44 := rfl
        unfold f_MO_ifSame_30
        refine Tp_if (fun h992 => ?_) (fun h992 => ?_)
        · have g993 := ti_q h992
          have l996 : ((1 : Int32)).toInt = 1 := rfl
          have i997 := ti_rg (mz_gI t 0 63)
          refine Tp_bi (s_MO_failL hn ci (by omega) (t := t) (x1 := (1 : Int32)) (x2 := mz_gI t 0 63)) (fun q994 h995 => ?_)
          obtain ⟨ci998, E999, p1000, p1001⟩ := h995
          have b1002 := HI_g29 ci998 (c := 0) (p := 6) rfl
          have b1003 := FX_0_8 (HI_FX ci998)
          have b1004 := HI_g29 ci (c := 0) (p := 6) rfl
          have b1005 := HI_g23 ci998 (c := 0) (p := 60) rfl
          have e1006 : (mz_gI q994 0 60).toInt = (mz_gI t 0 60).toInt := by rw [E999 _ _ (by simp)]
          refine Tp_so ?_
          have b1007 := FX_0_34 (HI_FX ci998)
          have e1008 : (mz_gI q994 0 34).toInt = (mz_gI t 0 34).toInt := by rw [E999 _ _ (by simp)]
          have b1009 := FX_0_48 (HI_FX ci998)
          have e1010 : (mz_gI q994 0 48).toInt = (mz_gI t 0 48).toInt := by rw [E999 _ _ (by simp)]
          have b1011 := FX_0_51 (HI_FX ci998)
          have e1012 : (mz_gI q994 0 51).toInt = (mz_gI t 0 51).toInt := by rw [E999 _ _ (by simp)]
          refine ⟨ci998, ?_, ?_, ?_⟩
          · (try dsimp only) <;> first | omega | assumption
          · (try dsimp only) <;> first | omega | assumption
          · (try dsimp only) <;> first | omega | assumption
        · have g1013 := ti_nq h992
          refine Tp_bi (s_MO_hold hn (HI_NI ci) (by omega) (by omega) (by omega) (by omega) (by omega) (t := t) (x1 := mz_gI t 0 61) (x2 := x1)) (fun q1014 h1015 => ?_)
          obtain ⟨mi1022, p1017, p1018, p1019, p1020, p1021⟩ := h1015
          have ci1016 := HI_trN ci mi1022
          have b1023 := HI_g2 ci (c := 0) (p := 62) rfl
          have b1024 := FX_0_48 (HI_FX ci1016)
          have b1025 := FX_0_51 (HI_FX ci1016)
          have b1026 := HI_g24 ci1016 (c := 0) (p := 61) rfl
          have b1027 := HI_g2 ci1016 (c := 0) (p := 62) rfl
          have l1030 : ((1 : Int32)).toInt = 1 := rfl
          first | (have a1031 : (x1 + (1 : Int32)).toInt = (x1).toInt + ((1 : Int32)).toInt := ti_add (by omega) (by omega)) | (have a1032 := ti_rg (x1 + (1 : Int32)))
          have b1033 := HI_g23 ci1016 (c := 0) (p := 60) rfl
          have e1034 : (mz_gI q1014 0 60).toInt = (mz_gI t 0 60).toInt := NI_13 mi1022 rfl
          refine Tp_bi (s_MO_hold hn (HI_NI ci1016) (by omega) (by omega) (by omega) (by omega) (by omega) (t := q1014) (x1 := x1 + (1 : Int32)) (x2 := mz_gI q1014 0 60)) (fun q1028 h1029 => ?_)
          obtain ⟨mi1041, p1036, p1037, p1038, p1039, p1040⟩ := h1029
          have ci1035 := HI_trN ci1016 mi1041
          have b1042 := FX_0_48 (HI_FX ci1035)
          have b1043 := FX_0_51 (HI_FX ci1035)
          have b1044 := HI_g24 ci1035 (c := 0) (p := 61) rfl
          have b1045 := HI_g2 ci1035 (c := 0) (p := 62) rfl
          refine Tp_gd (ti_ix (by omega) (by omega)) ?_
          refine Tp_gd (ti_ix (by omega) (by omega)) ?_
          first | (have a1046 : ((mz_gI t 0 48) + (1 : Int32)).toInt = (mz_gI t 0 48).toInt + ((1 : Int32)).toInt := ti_add (by omega) (by omega)) | (have a1047 := ti_rg ((mz_gI t 0 48) + (1 : Int32)))
          refine Tp_gd (ti_ix (by omega) (by omega)) ?_
          refine Tp_gd (ti_ix (by omega) (by omega)) ?_
          refine Tp_if (fun h1048 => ?_) (fun h1048 => ?_)
          · have g1049 := ti_q h1048
            have b1050 := FX_36 (HI_FX ci1035) (mz_gI t 0 48).toNatClampNeg
            have b1051 := FX_35 (HI_FX ci1035) (mz_gI t 0 48).toNatClampNeg
            first | (have a1052 : ((mz_gI q1028 36 (mz_gI t 0 48).toNatClampNeg) - (mz_gI q1028 35 (mz_gI t 0 48).toNatClampNeg)).toInt = (mz_gI q1028 36 (mz_gI t 0 48).toNatClampNeg).toInt - (mz_gI q1028 35 (mz_gI t 0 48).toNatClampNeg).toInt := ti_sub (by omega) (by omega)) | (have a1053 := ti_rg ((mz_gI q1028 36 (mz_gI t 0 48).toNatClampNeg) - (mz_gI q1028 35 (mz_gI t 0 48).toNatClampNeg)))
            have b1054 := FX_36 (HI_FX ci1035) ((mz_gI t 0 48) + (1 : Int32)).toNatClampNeg
            have b1055 := FX_35 (HI_FX ci1035) ((mz_gI t 0 48) + (1 : Int32)).toNatClampNeg
            first | (have a1056 : ((mz_gI q1028 36 ((mz_gI t 0 48) + (1 : Int32)).toNatClampNeg) - (mz_gI q1028 35 ((mz_gI t 0 48) + (1 : Int32)).toNatClampNeg)).toInt = (mz_gI q1028 36 ((mz_gI t 0 48) + (1 : Int32)).toNatClampNeg).toInt - (mz_gI q1028 35 ((mz_gI t 0 48) + (1 : Int32)).toNatClampNeg).toInt := ti_sub (by omega) (by omega)) | (have a1057 := ti_rg ((mz_gI q1028 36 ((mz_gI t 0 48) + (1 : Int32)).toNatClampNeg) - (mz_gI q1028 35 ((mz_gI t 0 48) + (1 : Int32)).toNatClampNeg)))
            unfold f_MO_ifSame_120
            have l1058 : ((0 : Int32)).toInt = 0 := rfl
            have b1059 := FX_0_34 (HI_FX ci1035)
            have e1060 : (mz_gI q1028 0 34).toInt = (mz_gI q1014 0 34).toInt := NI_13 mi1041 rfl
            have b1061 := FX_0_34 (HI_FX ci1016)
            have e1062 : (mz_gI q1014 0 34).toInt = (mz_gI t 0 34).toInt := NI_13 mi1022 rfl
            refine Tp_mo (l_MO_ifSame_125 hn  n (mz_gI t 0 48) (mz_gI t 0 51) ((mz_gI q1028 36 (mz_gI t 0 48).toNatClampNeg) - (mz_gI q1028 35 (mz_gI t 0 48).toNatClampNeg)) (1 : Int32) (0 : Int32) q1028 ci1035 (by omega) (by omega) (by omega) (by omega) (by omega) (by omega) (by omega) (by omega) (by omega) (by omega) (by omega)) (fun q1063 h1064 => ?_)
            obtain ⟨ci1065, p1066, p1067, p1068⟩ := h1064
            have b1069 := FX_0_8 (HI_FX ci1035)
            have e1070 : (mz_gI q1028 0 8).toInt = (mz_gI q1014 0 8).toInt := NI_13 mi1041 rfl
            have b1071 := FX_0_8 (HI_FX ci1016)
            have e1072 : (mz_gI q1014 0 8).toInt = (mz_gI t 0 8).toInt := NI_13 mi1022 rfl
            have b1073 := HI_g29 ci1065 (c := 0) (p := 6) rfl
            have b1074 := HI_g29 ci1035 (c := 0) (p := 6) rfl
            have e1075 : (mz_gI q1028 0 6).toInt = (mz_gI q1014 0 6).toInt := NI_13 mi1041 rfl
            have b1076 := HI_g29 ci1016 (c := 0) (p := 6) rfl
            have e1077 : (mz_gI q1014 0 6).toInt = (mz_gI t 0 6).toInt := NI_13 mi1022 rfl
            have b1078 := HI_g29 ci (c := 0) (p := 6) rfl
            have b1079 := FX_0_8 (HI_FX ci1065)
            have b1080 := FX_0_34 (HI_FX ci1065)
            have b1081 := FX_0_48 (HI_FX ci1065)
            have b1082 := FX_0_51 (HI_FX ci1065)
            refine ⟨ci1065, ?_, ?_, ?_⟩
            · (try dsimp only) <;> first | omega | assumption
            · (try dsimp only) <;> first | omega | assumption
            · (try dsimp only) <;> first | omega | assumption
          · have g1083 := ti_nq h1048
            have b1084 := FX_36 (HI_FX ci1035) (mz_gI t 0 48).toNatClampNeg
            have b1085 := FX_35 (HI_FX ci1035) (mz_gI t 0 48).toNatClampNeg
            first | (have a1086 : ((mz_gI q1028 36 (mz_gI t 0 48).toNatClampNeg) - (mz_gI q1028 35 (mz_gI t 0 48).toNatClampNeg)).toInt = (mz_gI q1028 36 (mz_gI t 0 48).toNatClampNeg).toInt - (mz_gI q1028 35 (mz_gI t 0 48).toNatClampNeg).toInt := ti_sub (by omega) (by omega)) | (have a1087 := ti_rg ((mz_gI q1028 36 (mz_gI t 0 48).toNatClampNeg) - (mz_gI q1028 35 (mz_gI t 0 48).toNatClampNeg)))
            have b1088 := FX_36 (HI_FX ci1035) ((mz_gI t 0 48) + (1 : Int32)).toNatClampNeg
            have b1089 := FX_35 (HI_FX ci1035) ((mz_gI t 0 48) + (1 : Int32)).toNatClampNeg
            first | (have a1090 : ((mz_gI q1028 36 ((mz_gI t 0 48) + (1 : Int32)).toNatClampNeg) - (mz_gI q1028 35 ((mz_gI t 0 48) + (1 : Int32)).toNatClampNeg)).toInt = (mz_gI q1028 36 ((mz_gI t 0 48) + (1 : Int32)).toNatClampNeg).toInt - (mz_gI q1028 35 ((mz_gI t 0 48) + (1 : Int32)).toNatClampNeg).toInt := ti_sub (by omega) (by omega)) | (have a1091 := ti_rg ((mz_gI q1028 36 ((mz_gI t 0 48) + (1 : Int32)).toNatClampNeg) - (mz_gI q1028 35 ((mz_gI t 0 48) + (1 : Int32)).toNatClampNeg)))
            unfold f_MO_ifSame_120
            have l1092 : ((0 : Int32)).toInt = 0 := rfl
            have b1093 := FX_0_34 (HI_FX ci1035)
            have e1094 : (mz_gI q1028 0 34).toInt = (mz_gI q1014 0 34).toInt := NI_13 mi1041 rfl
            have b1095 := FX_0_34 (HI_FX ci1016)
            have e1096 : (mz_gI q1014 0 34).toInt = (mz_gI t 0 34).toInt := NI_13 mi1022 rfl
            refine Tp_mo (l_MO_ifSame_125 hn  n (mz_gI t 0 48) (mz_gI t 0 51) ((mz_gI q1028 36 (mz_gI t 0 48).toNatClampNeg) - (mz_gI q1028 35 (mz_gI t 0 48).toNatClampNeg)) (0 : Int32) (0 : Int32) q1028 ci1035 (by omega) (by omega) (by omega) (by omega) (by omega) (by omega) (by omega) (by omega) (by omega) (by omega) (by omega)) (fun q1097 h1098 => ?_)
            obtain ⟨ci1099, p1100, p1101, p1102⟩ := h1098
            have b1103 := FX_0_8 (HI_FX ci1035)
            have e1104 : (mz_gI q1028 0 8).toInt = (mz_gI q1014 0 8).toInt := NI_13 mi1041 rfl
            have b1105 := FX_0_8 (HI_FX ci1016)
            have e1106 : (mz_gI q1014 0 8).toInt = (mz_gI t 0 8).toInt := NI_13 mi1022 rfl
            have b1107 := HI_g29 ci1099 (c := 0) (p := 6) rfl
            have b1108 := HI_g29 ci1035 (c := 0) (p := 6) rfl
            have e1109 : (mz_gI q1028 0 6).toInt = (mz_gI q1014 0 6).toInt := NI_13 mi1041 rfl
            have b1110 := HI_g29 ci1016 (c := 0) (p := 6) rfl
            have e1111 : (mz_gI q1014 0 6).toInt = (mz_gI t 0 6).toInt := NI_13 mi1022 rfl
            have b1112 := HI_g29 ci (c := 0) (p := 6) rfl
            have b1113 := FX_0_8 (HI_FX ci1099)
            have b1114 := FX_0_34 (HI_FX ci1099)
            have b1115 := FX_0_48 (HI_FX ci1099)
            have b1116 := FX_0_51 (HI_FX ci1099)
            refine ⟨ci1099, ?_, ?_, ?_⟩
            · (try dsimp only) <;> first | omega | assumption
            · (try dsimp only) <;> first | omega | assumption
            · (try dsimp only) <;> first | omega | assumption
      · have g1117 := ti_nq h988
        have i1118 := ti_rg (mz_gI t 43 x1.toNatClampNeg)
        have l1119 : ((44 : Int32)).toInt = 44 := rfl
        have l1120 : ((1 : Int32)).toInt = 1 := rfl
        first | (have a1121 : (x1 + (1 : Int32)).toInt = (x1).toInt + ((1 : Int32)).toInt := ti_add (by omega) (by omega)) | (have a1122 := ti_rg (x1 + (1 : Int32)))
        exact ih (x1 + (1 : Int32)) t ci (by omega) (by omega) (by omega) (by omega) (by omega) (by omega) (by omega) (by omega)
