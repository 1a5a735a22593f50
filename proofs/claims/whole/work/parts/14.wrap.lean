theorem wk_702 : Cond.methodLink RL 7 yX6_addShot ∈ ho_TB := ho_mk 298 (by decide +kernel)
theorem wk_703 : Cond.instanceMethod yX6_addShot ∈ ho_TB := ho_mk 299 (by decide +kernel)
theorem wk_704 : Cond.selects RX6 yX6_addShot yX6_addShot ∈ ho_TB := ho_mk 300 (by decide +kernel)
theorem wk_705 : Cond.code yX6_addShot cX6_addShot 2 (some .int) ∈ ho_TB := ho_mk 301 (by decide +kernel)
theorem wk_706 : Cond.classLink RL 13 (ho_ex 0) ∈ ho_TB := ho_mk 296 (by decide +kernel)
theorem wk_707 : Cond.castable (ho_ex 0) (ho_ex 0) ∈ ho_NW := ho_mkn 304 (by decide +kernel)
theorem wk_708 : Cond.classLink RL 15 (ho_ex 1) ∈ ho_TB := ho_mk 297 (by decide +kernel)
theorem wk_709 : Cond.castable (ho_ex 1) (ho_ex 1) ∈ ho_NW := ho_mkn 376 (by decide +kernel)
theorem wk_710 : Cond.methodLink RL 17 yX6_cut ∈ ho_TB := ho_mk 415 (by decide +kernel)
theorem wk_711 : Cond.instanceMethod yX6_cut ∈ ho_TB := ho_mk 416 (by decide +kernel)
theorem wk_712 : Cond.selects RX6 yX6_cut yX6_cut ∈ ho_TB := ho_mk 417 (by decide +kernel)
theorem wk_713 : Cond.code yX6_cut cX6_cut 3 (some .int) ∈ ho_TB := ho_mk 418 (by decide +kernel)
theorem wk_714 : Cond.classLink RL 21 (ho_ex 2) ∈ ho_TB := ho_mk 414 (by decide +kernel)
theorem wk_715 : Cond.castable (ho_ex 2) (ho_ex 2) ∈ ho_NW := ho_mkn 425 (by decide +kernel)
theorem wk_716 : Cond.methodLink RL 23 yX6_move ∈ ho_TB := ho_mk 499 (by decide +kernel)
theorem wk_717 : Cond.instanceMethod yX6_move ∈ ho_TB := ho_mk 500 (by decide +kernel)
theorem wk_718 : Cond.selects RX6 yX6_move yX6_move ∈ ho_TB := ho_mk 501 (by decide +kernel)
theorem wk_719 : Cond.code yX6_move cX6_move 4 (some .int) ∈ ho_TB := ho_mk 502 (by decide +kernel)
theorem wk_720 : Cond.methodLink RL 27 yX6_putBack ∈ ho_TB := ho_mk 514 (by decide +kernel)
theorem wk_721 : Cond.instanceMethod yX6_putBack ∈ ho_TB := ho_mk 515 (by decide +kernel)
theorem wk_722 : Cond.selects RX6 yX6_putBack yX6_putBack ∈ ho_TB := ho_mk 516 (by decide +kernel)
theorem wk_723 : Cond.code yX6_putBack cX6_putBack 5 (some .int) ∈ ho_TB := ho_mk 517 (by decide +kernel)
theorem wk_724 : Cond.methodLink RL 31 yX6_frameAt ∈ ho_TB := ho_mk 540 (by decide +kernel)
theorem wk_725 : Cond.instanceMethod yX6_frameAt ∈ ho_TB := ho_mk 541 (by decide +kernel)
theorem wk_726 : Cond.selects RX6 yX6_frameAt yX6_frameAt ∈ ho_TB := ho_mk 542 (by decide +kernel)
theorem wk_727 : Cond.code yX6_frameAt cX6_frameAt 3 (some .int) ∈ ho_TB := ho_mk 543 (by decide +kernel)
theorem wk_728 : Cond.methodLink RL 34 yX6_placeOf ∈ ho_TB := ho_mk 548 (by decide +kernel)
theorem wk_729 : Cond.instanceMethod yX6_placeOf ∈ ho_TB := ho_mk 549 (by decide +kernel)
theorem wk_730 : Cond.selects RX6 yX6_placeOf yX6_placeOf ∈ ho_TB := ho_mk 550 (by decide +kernel)
theorem wk_731 : Cond.code yX6_placeOf cX6_placeOf 3 (some .int) ∈ ho_TB := ho_mk 551 (by decide +kernel)
theorem wk_732 : Cond.methodLink RL 37 yX6_isBoundary ∈ ho_TB := ho_mk 556 (by decide +kernel)
theorem wk_733 : Cond.instanceMethod yX6_isBoundary ∈ ho_TB := ho_mk 557 (by decide +kernel)
theorem wk_734 : Cond.selects RX6 yX6_isBoundary yX6_isBoundary ∈ ho_TB := ho_mk 558 (by decide +kernel)
theorem wk_735 : Cond.code yX6_isBoundary cX6_isBoundary 2 (some .boolean) ∈ ho_TB := ho_mk 559 (by decide +kernel)
theorem wk_736 : Cond.methodLink RL 41 yX6_add ∈ ho_TB := ho_mk 567 (by decide +kernel)
theorem wk_737 : Cond.instanceMethod yX6_add ∈ ho_TB := ho_mk 568 (by decide +kernel)
theorem wk_738 : Cond.selects RX6 yX6_add yX6_add ∈ ho_TB := ho_mk 569 (by decide +kernel)
theorem wk_739 : Cond.code yX6_add cX6_add 4 (some .int) ∈ ho_TB := ho_mk 570 (by decide +kernel)
theorem wk_740 : Cond.methodLink RL 44 yX6_lay ∈ ho_TB := ho_mk 586 (by decide +kernel)
theorem wk_741 : Cond.instanceMethod yX6_lay ∈ ho_TB := ho_mk 587 (by decide +kernel)
theorem wk_742 : Cond.selects RX6 yX6_lay yX6_lay ∈ ho_TB := ho_mk 588 (by decide +kernel)
theorem wk_743 : Cond.code yX6_lay cX6_lay 5 (some .int) ∈ ho_TB := ho_mk 589 (by decide +kernel)
theorem wk_744 : Cond.methodLink RL 47 yX6_setLook ∈ ho_TB := ho_mk 615 (by decide +kernel)
theorem wk_745 : Cond.instanceMethod yX6_setLook ∈ ho_TB := ho_mk 616 (by decide +kernel)
theorem wk_746 : Cond.selects RX6 yX6_setLook yX6_setLook ∈ ho_TB := ho_mk 617 (by decide +kernel)
theorem wk_747 : Cond.code yX6_setLook cX6_setLook 4 (some .int) ∈ ho_TB := ho_mk 618 (by decide +kernel)
theorem wk_748 : Cond.methodLink RL 50 yX6_startOf ∈ ho_TB := ho_mk 624 (by decide +kernel)
theorem wk_749 : Cond.instanceMethod yX6_startOf ∈ ho_TB := ho_mk 625 (by decide +kernel)
theorem wk_750 : Cond.selects RX6 yX6_startOf yX6_startOf ∈ ho_TB := ho_mk 626 (by decide +kernel)
theorem wk_751 : Cond.code yX6_startOf cX6_startOf 2 (some .int) ∈ ho_TB := ho_mk 627 (by decide +kernel)
theorem wk_752 : Cond.methodLink RL 53 yX6_lengthOf ∈ ho_TB := ho_mk 631 (by decide +kernel)
theorem wk_753 : Cond.instanceMethod yX6_lengthOf ∈ ho_TB := ho_mk 632 (by decide +kernel)
theorem wk_754 : Cond.selects RX6 yX6_lengthOf yX6_lengthOf ∈ ho_TB := ho_mk 633 (by decide +kernel)
theorem wk_755 : Cond.code yX6_lengthOf cX6_lengthOf 2 (some .int) ∈ ho_TB := ho_mk 634 (by decide +kernel)
theorem wk_756 : Cond.methodLink RL 56 yX6_startByFrames ∈ ho_TB := ho_mk 639 (by decide +kernel)
theorem wk_757 : Cond.instanceMethod yX6_startByFrames ∈ ho_TB := ho_mk 640 (by decide +kernel)
theorem wk_758 : Cond.selects RX6 yX6_startByFrames yX6_startByFrames ∈ ho_TB := ho_mk 641 (by decide +kernel)
theorem wk_759 : Cond.code yX6_startByFrames cX6_startByFrames 6 (some .int) ∈ ho_TB := ho_mk 642 (by decide +kernel)
theorem wk_760 : Cond.methodLink RL 59 yX6_inOrder ∈ ho_TB := ho_mk 648 (by decide +kernel)
theorem wk_761 : Cond.instanceMethod yX6_inOrder ∈ ho_TB := ho_mk 649 (by decide +kernel)
theorem wk_762 : Cond.selects RX6 yX6_inOrder yX6_inOrder ∈ ho_TB := ho_mk 650 (by decide +kernel)
theorem wk_763 : Cond.code yX6_inOrder cX6_inOrder 2 (some .int) ∈ ho_TB := ho_mk 651 (by decide +kernel)
theorem wk_764 : Cond.methodLink RL 62 yX6_type ∈ ho_TB := ho_mk 668 (by decide +kernel)
theorem wk_765 : Cond.instanceMethod yX6_type ∈ ho_TB := ho_mk 669 (by decide +kernel)
theorem wk_766 : Cond.selects RX6 yX6_type yX6_type ∈ ho_TB := ho_mk 670 (by decide +kernel)
theorem wk_767 : Cond.code yX6_type cX6_type 5 (some .int) ∈ ho_TB := ho_mk 671 (by decide +kernel)
theorem wk_768 : Cond.methodLink RL 65 yX6_erase ∈ ho_TB := ho_mk 710 (by decide +kernel)
theorem wk_769 : Cond.instanceMethod yX6_erase ∈ ho_TB := ho_mk 711 (by decide +kernel)
theorem wk_770 : Cond.selects RX6 yX6_erase yX6_erase ∈ ho_TB := ho_mk 712 (by decide +kernel)
theorem wk_771 : Cond.code yX6_erase cX6_erase 5 (some .int) ∈ ho_TB := ho_mk 713 (by decide +kernel)
theorem wk_772 : Cond.methodLink RL 68 yX6_signs ∈ ho_TB := ho_mk 726 (by decide +kernel)
theorem wk_773 : Cond.instanceMethod yX6_signs ∈ ho_TB := ho_mk 727 (by decide +kernel)
theorem wk_774 : Cond.selects RX6 yX6_signs yX6_signs ∈ ho_TB := ho_mk 728 (by decide +kernel)
theorem wk_775 : Cond.code yX6_signs cX6_signs 3 (some .int) ∈ ho_TB := ho_mk 729 (by decide +kernel)
theorem wk_776 : Cond.methodLink RL 71 yX6_signAt ∈ ho_TB := ho_mk 733 (by decide +kernel)
theorem wk_777 : Cond.instanceMethod yX6_signAt ∈ ho_TB := ho_mk 734 (by decide +kernel)
theorem wk_778 : Cond.selects RX6 yX6_signAt yX6_signAt ∈ ho_TB := ho_mk 735 (by decide +kernel)
theorem wk_779 : Cond.code yX6_signAt cX6_signAt 5 (some .int) ∈ ho_TB := ho_mk 736 (by decide +kernel)
theorem wk_780 : Cond.methodLink RL 74 yX6_width ∈ ho_TB := ho_mk 742 (by decide +kernel)
theorem wk_781 : Cond.instanceMethod yX6_width ∈ ho_TB := ho_mk 743 (by decide +kernel)
theorem wk_782 : Cond.selects RX6 yX6_width yX6_width ∈ ho_TB := ho_mk 744 (by decide +kernel)
theorem wk_783 : Cond.code yX6_width cX6_width 3 (some .int) ∈ ho_TB := ho_mk 745 (by decide +kernel)
theorem wk_784 : Cond.methodLink RL 77 yX6_rows ∈ ho_TB := ho_mk 758 (by decide +kernel)
theorem wk_785 : Cond.instanceMethod yX6_rows ∈ ho_TB := ho_mk 759 (by decide +kernel)
theorem wk_786 : Cond.selects RX6 yX6_rows yX6_rows ∈ ho_TB := ho_mk 760 (by decide +kernel)
theorem wk_787 : Cond.code yX6_rows cX6_rows 3 (some .int) ∈ ho_TB := ho_mk 761 (by decide +kernel)
theorem wk_788 : Cond.methodLink RL 80 yX6_row ∈ ho_TB := ho_mk 807 (by decide +kernel)
theorem wk_789 : Cond.instanceMethod yX6_row ∈ ho_TB := ho_mk 808 (by decide +kernel)
theorem wk_790 : Cond.selects RX6 yX6_row yX6_row ∈ ho_TB := ho_mk 809 (by decide +kernel)
theorem wk_791 : Cond.code yX6_row cX6_row 4 (some .int) ∈ ho_TB := ho_mk 810 (by decide +kernel)
theorem wk_792 : Cond.methodLink RL 83 yX6_setLimits ∈ ho_TB := ho_mk 823 (by decide +kernel)
theorem wk_793 : Cond.instanceMethod yX6_setLimits ∈ ho_TB := ho_mk 824 (by decide +kernel)
theorem wk_794 : Cond.selects RX6 yX6_setLimits yX6_setLimits ∈ ho_TB := ho_mk 825 (by decide +kernel)
theorem wk_795 : Cond.code yX6_setLimits cX6_setLimits 4 (some .int) ∈ ho_TB := ho_mk 826 (by decide +kernel)
theorem wk_796 : Cond.methodLink RL 86 yX6_confirm ∈ ho_TB := ho_mk 831 (by decide +kernel)
theorem wk_797 : Cond.instanceMethod yX6_confirm ∈ ho_TB := ho_mk 832 (by decide +kernel)
theorem wk_798 : Cond.selects RX6 yX6_confirm yX6_confirm ∈ ho_TB := ho_mk 833 (by decide +kernel)
theorem wk_799 : Cond.code yX6_confirm cX6_confirm 6 (some .int) ∈ ho_TB := ho_mk 834 (by decide +kernel)
theorem wk_800 : Cond.methodLink RL 89 yX6_fill ∈ ho_TB := ho_mk 878 (by decide +kernel)
theorem wk_801 : Cond.instanceMethod yX6_fill ∈ ho_TB := ho_mk 879 (by decide +kernel)
theorem wk_802 : Cond.selects RX6 yX6_fill yX6_fill ∈ ho_TB := ho_mk 880 (by decide +kernel)
theorem wk_803 : Cond.code yX6_fill cX6_fill 6 (some .int) ∈ ho_TB := ho_mk 881 (by decide +kernel)
theorem wk_804 : Cond.methodLink RL 92 yX6_isStale ∈ ho_TB := ho_mk 893 (by decide +kernel)
theorem wk_805 : Cond.instanceMethod yX6_isStale ∈ ho_TB := ho_mk 894 (by decide +kernel)
theorem wk_806 : Cond.selects RX6 yX6_isStale yX6_isStale ∈ ho_TB := ho_mk 895 (by decide +kernel)
theorem wk_807 : Cond.code yX6_isStale cX6_isStale 3 (some .boolean) ∈ ho_TB := ho_mk 896 (by decide +kernel)
theorem wk_808 : Cond.methodLink RL 96 yX6_memory ∈ ho_TB := ho_mk 904 (by decide +kernel)
theorem wk_809 : Cond.instanceMethod yX6_memory ∈ ho_TB := ho_mk 905 (by decide +kernel)
theorem wk_810 : Cond.selects RX6 yX6_memory yX6_memory ∈ ho_TB := ho_mk 906 (by decide +kernel)
theorem wk_811 : Cond.code yX6_memory cX6_memory 2 (some .int) ∈ ho_TB := ho_mk 907 (by decide +kernel)
theorem wk_812 : Cond.methodLink RL 99 yX6_broken ∈ ho_TB := ho_mk 911 (by decide +kernel)
theorem wk_813 : Cond.instanceMethod yX6_broken ∈ ho_TB := ho_mk 912 (by decide +kernel)
theorem wk_814 : Cond.selects RX6 yX6_broken yX6_broken ∈ ho_TB := ho_mk 913 (by decide +kernel)
theorem wk_815 : Cond.code yX6_broken cX6_broken 3 (some .int) ∈ ho_TB := ho_mk 914 (by decide +kernel)
theorem wk_816 : Cond.methodLink RL 102 yX6_letGo ∈ ho_TB := ho_mk 946 (by decide +kernel)
theorem wk_817 : Cond.instanceMethod yX6_letGo ∈ ho_TB := ho_mk 947 (by decide +kernel)
theorem wk_818 : Cond.selects RX6 yX6_letGo yX6_letGo ∈ ho_TB := ho_mk 948 (by decide +kernel)
theorem wk_819 : Cond.code yX6_letGo cX6_letGo 7 (some .int) ∈ ho_TB := ho_mk 949 (by decide +kernel)
theorem wk_820 : Cond.methodLink RL 105 yX6_nameOf ∈ ho_TB := ho_mk 959 (by decide +kernel)
theorem wk_821 : Cond.instanceMethod yX6_nameOf ∈ ho_TB := ho_mk 960 (by decide +kernel)
theorem wk_822 : Cond.selects RX6 yX6_nameOf yX6_nameOf ∈ ho_TB := ho_mk 961 (by decide +kernel)
theorem wk_823 : Cond.code yX6_nameOf cX6_nameOf 5 (some .int) ∈ ho_TB := ho_mk 962 (by decide +kernel)
theorem wk_824 : Cond.methodLink RL 108 yX6_faults ∈ ho_TB := ho_mk 966 (by decide +kernel)
theorem wk_825 : Cond.instanceMethod yX6_faults ∈ ho_TB := ho_mk 967 (by decide +kernel)
theorem wk_826 : Cond.selects RX6 yX6_faults yX6_faults ∈ ho_TB := ho_mk 968 (by decide +kernel)
theorem wk_827 : Cond.code yX6_faults cX6_faults 5 (some .int) ∈ ho_TB := ho_mk 969 (by decide +kernel)
theorem wk_828 : Cond.methodLink RL 111 yX6_written ∈ ho_TB := ho_mk 983 (by decide +kernel)
theorem wk_829 : Cond.instanceMethod yX6_written ∈ ho_TB := ho_mk 984 (by decide +kernel)
theorem wk_830 : Cond.selects RX6 yX6_written yX6_written ∈ ho_TB := ho_mk 985 (by decide +kernel)
theorem wk_831 : Cond.code yX6_written cX6_written 3 (some .int) ∈ ho_TB := ho_mk 986 (by decide +kernel)
theorem wk_832 : Cond.methodLink RL 114 yX6_writtenChar ∈ ho_TB := ho_mk 1045 (by decide +kernel)
theorem wk_833 : Cond.instanceMethod yX6_writtenChar ∈ ho_TB := ho_mk 1046 (by decide +kernel)
theorem wk_834 : Cond.selects RX6 yX6_writtenChar yX6_writtenChar ∈ ho_TB := ho_mk 1047 (by decide +kernel)
theorem wk_835 : Cond.code yX6_writtenChar cX6_writtenChar 4 (some .char) ∈ ho_TB := ho_mk 1048 (by decide +kernel)
def ho_NCL : List (Nat × Nat) := [(0, 1), (0, 2), (1, 0), (1, 2), (2, 0), (2, 1)]
def ho_nc9 (U : State) : Prop := ∀ q ∈ ho_NCL, va_Nc (ho_ex q.1) (ho_ex q.2) U
def ho_MetW (y : MethodName) (bytes : ByteArray) (maxL : Nat) (hh : List (Nat × Nat × Nat × Nat)) (fr lo : Nat) (Ta : List Nat) (M : ho_M) : Prop :=
  ∀ (l : Launch) (dC : Nat → ClassId) (dI : Nat → Nat → Nat) (cA : Nat → ClassId) (ad : Nat → Nat) (A : Nat → Prop) (a : List Int) (σ : ho_S) (Q : ho_K), l.stackTraces = false → ho_ty Ta a → ho_rng σ → M a σ Q (fun _ _ => False) →
    Met l y (Cond.codeWith y bytes maxL (some .int) hh :: ho_TB) { frames := fr, cells := 1, slots := 6, locals := lo } (fun v U => ho_Pc dC dI cA ad A Ta a σ v U ∧ ho_nc9 U) (ho_Qc dC dI cA ad A 1 Q) 1 6 A
section
variable {mi : ho_I} {ρ : Nat} {T T' T'' Ta : List Nat} {τ d pc p1 p2 p3 p4 pc' : Nat}
def zLs (f g h : ho_E) : ho_Z := fun v σ K _ X => f v σ (fun r σ => g v σ (fun i σ => h v σ (fun a σ => (0 ≤ i ∧ i < (ho_N r.toNat : Int)) ∧ K v (ho_up σ r.toNat i.toNat a)) X) X) X
def zLz (f g h : ho_E) : ho_Z := fun v σ K _ X => f v σ (fun r σ => g v σ (fun i σ => h v σ (fun a σ => (0 ≤ i ∧ i < (ho_N r.toNat : Int)) ∧ K v (ho_up σ r.toNat i.toNat (if a = 0 then 0 else 1))) X) X) X
theorem ho_i2l {a : Int} (h : ho_in a) : (Int32.ofInt a).toInt64 = Int64.ofInt a := by
  refine Int64.toInt_inj.mp ?_
  rw [Int32.toInt_toInt64, ho_ti, ho_w_eq h, Int64.toInt_ofInt]
  unfold ho_in at h
  rw [Int.bmod_def]
  simp only [Int64.size]
  split <;> omega
theorem ho_ce_lng {cA : Nat → ClassId} {ad : Nat → Nat} {σ : ho_S} {k : Nat} (h : ho_T k = 3) : ho_ce cA ad σ k = .inl (cA 3, ho_N k, .inr (.inl (fun j => Int64.ofInt (σ k j)))) := by
  simp [ho_ce, h]
theorem ho_lastore {C : ho_Cx} {v : List Int} {st : List Value} {σ : ho_S} {r i x : Int} {y : Int64} (hC : ho_ok C mi) (hr : ho_typ 4 r) (hi : ho_in i) (hx : ho_in x) (hy : y = Int64.ofInt x) (hi0 : 0 ≤ i) (hi1 : i < (ho_N r.toNat : Int)) (hd : decode mi.2.1 pc = .ok (.lastore, 1)) (k : ho_P C (pc + 1) T v st (ho_up σ r.toNat i.toNat x)) : ho_P C pc T v (.long y :: ho_val (ho_ad C) 0 i :: ho_val (ho_ad C) 4 r :: st) σ := by
  obtain ⟨hx0, hx1, hx2⟩ := ho_typS hr (by omega)
  obtain ⟨p, l, e, R, s, m, args, below, meth, c, dC, dI, cA, ad, A, Q, X, ρ9, Qf, nc, ns⟩ := C
  obtain ⟨he, hb, hm, ho, hts, hK, hA, hZ, hfr9, hlo9, hRc, hRs, hlk, hst0, hexc, hret, hqr, hzz⟩ := id hC
  intro hT hσ H locs ls hl hP hD hS
  have hg := ho_W_get (cA := cA) (ad := ad) (σ := σ) hx1
  rw [ho_ce_lng (by omega)] at hg
  refine W.eq (g2 := F0 m pc ls (.long y :: .int (Int32.ofInt i) :: .ref (ad r.toNat) :: st)) rfl ?_
  refine va_last (D := (dC, dI)) (cl := vwCl) (tys := ho_tys cA) (ws := ho_W cA ad σ) he hb hK hP hD hS r.toNat 3 hg rfl (i := Int32.ofInt i) (x := y) (ho_vpin hi hi0 hi1) hd (fun H1 locs1 hP1 hD1 hS1 => ?_)
  have e9 : (.inl (cA 3, ho_N r.toNat, .inr (.inl (vp_updL (fun j => Int64.ofInt (σ r.toNat j)) (Int32.ofInt i).toNatClampNeg y))) : va_E) = ho_ce cA ad (ho_up σ r.toNat i.toNat x) r.toNat := by
    rw [ho_ce_lng (by omega), ho_clamp hi, hy]
    congr 5
    funext j
    by_cases hj : j = i.toNat
    · subst hj; simp [vp_updL, ho_up]
    · simp [vp_updL, ho_up, hj]
  rw [ho_W_set (σ' := ho_up σ r.toNat i.toNat x) e9 ho_up_off] at hP1 hD1
  exact k hT (ho_rng_up hσ hx) H1 locs1 ls hl hP1 hD1 hS1
theorem ho_i2lP {C : ho_Cx} {v : List Int} {st : List Value} {σ : ho_S} {x : Int} (hC : ho_ok C mi) (hx : ho_in x) (hd : decode mi.2.1 pc = .ok (.i2l, 1)) (k : ho_P C (pc + 1) T v (.long (Int64.ofInt x) :: st) σ) : ho_P C pc T v (ho_val (ho_ad C) 0 x :: st) σ := by
  obtain ⟨p, l, e, R, s, m, args, below, meth, c, dC, dI, cA, ad, A, Q, X, ρ9, Qf, nc, ns⟩ := C
  obtain ⟨he, hb, hm, ho, hts, hK, hA, hZ, hfr9, hlo9, hRc, hRs, hlk, hst0, hexc, hret, hqr, hzz⟩ := id hC
  intro hT hσ H locs ls hl hP hD hS
  exact lv_i2l (x := Int32.ofInt x) he hb hd (ho_i2l hx) (k hT hσ H locs ls hl hP hD hS)
theorem ho_lconst {C : ho_Cx} {v : List Int} {st : List Value} {σ : ho_S} {n : Fin 2} {x : Int} (hC : ho_ok C mi) (hx : Int64.ofNat (n : Nat) = Int64.ofInt x) (hd : decode mi.2.1 pc = .ok (.lconst n, 1)) (k : ho_P C (pc + 1) T v (.long (Int64.ofInt x) :: st) σ) : ho_P C pc T v st σ := by
  obtain ⟨p, l, e, R, s, m, args, below, meth, c, dC, dI, cA, ad, A, Q, X, ρ9, Qf, nc, ns⟩ := C
  obtain ⟨he, hb, hm, ho, hts, hK, hA, hZ, hfr9, hlo9, hRc, hRs, hlk, hst0, hexc, hret, hqr, hzz⟩ := id hC
  intro hT hσ H locs ls hl hP hD hS
  exact lv_lconst he hb hd hx (k hT hσ H locs ls hl hP hD hS)
theorem ho_ifeq {C : ho_Cx} {v : List Int} {st : List Value} {σ : ho_S} {x : Int} {off : Int} {tgt : Nat} (hC : ho_ok C mi) (hx : ho_in x) (hd : decode mi.2.1 pc = .ok (.ifCond .eq off, 3)) (ht : (pc : Int) + off = (tgt : Int)) (k1 : x = 0 → ho_P C tgt T v st σ) (k2 : x ≠ 0 → ho_P C (pc + 3) T v st σ) : ho_P C pc T v (ho_val (ho_ad C) 0 x :: st) σ := by
  obtain ⟨p, l, e, R, s, m, args, below, meth, c, dC, dI, cA, ad, A, Q, X, ρ9, Qf, nc, ns⟩ := C
  obtain ⟨he, hb, hm, ho, hts, hK, hA, hZ, hfr9, hlo9, hRc, hRs, hlk, hst0, hexc, hret, hqr, hzz⟩ := id hC
  intro hT hσ H locs ls hl hP hD hS
  have e0 : (0 : Int32) = Int32.ofInt 0 := rfl
  have h0 : ho_in 0 := by unfold ho_in; omega
  refine lv_if_eq (x := Int32.ofInt x) he hb hd ht (fun q => ?_) (fun q => ?_)
  · rw [e0, ho_eq hx h0] at q
    exact k1 q hT hσ H locs ls hl hP hD hS
  · rw [e0, ho_eq hx h0] at q
    exact k2 q hT hσ H locs ls hl hP hD hS
theorem ss_lst {f g h : ho_E} (hf : ho_SE mi T 4 0 pc p1 f) (hg : ho_SE mi T 0 1 p1 p2 g) (hh : ho_SE mi T 0 2 p2 p3 h) (hd : decode mi.2.1 p3 = .ok (.i2l, 1)) (hd2 : decode mi.2.1 (p3 + 1) = .ok (.lastore, 1)) : ho_SS mi ρ T T pc (p3 + 2) (zLs f g h) := by
  intro C hC hr v σ K hK hT hσ kk
  refine hf C hC v σ [] _ hK (Nat.zero_le _) hT hσ fun r σ hKr hr9 hσ => ?_
  refine hg C hC v σ _ _ hKr (by simp only [ho_cs, List.map_cons, List.map_nil, List.sum_cons, List.sum_nil, ho_cat]; omega) hT hσ fun i σ hKi hi hσ => ?_
  refine hh C hC v σ _ _ hKi (by simp only [ho_cs, List.map_cons, List.map_nil, List.sum_cons, List.sum_nil, ho_cat]; omega) hT hσ fun x σ hKx hx hσ => ?_
  exact ho_i2lP hC hx hd (ho_lastore hC hr9 hi hx rfl hKx.1.1 hKx.1.2 hd2 (kk v _ hKx.2 hT (ho_rng_up hσ hx)))
theorem ss_lsz {f g h : ho_E} {o1 o2 : Int} {t1 t2 : Nat} (hf : ho_SE mi T 4 0 pc p1 f) (hg : ho_SE mi T 0 1 p1 p2 g) (hh : ho_SE mi T 0 2 p2 p3 h) (hd : decode mi.2.1 p3 = .ok (.ifCond .eq o1, 3)) (ht1 : (p3 : Int) + o1 = (t1 : Int)) (hd2 : decode mi.2.1 (p3 + 3) = .ok (.lconst 1, 1)) (hd3 : decode mi.2.1 (p3 + 4) = .ok (.goto o2, 3)) (ht2 : ((p3 + 4 : Nat) : Int) + o2 = (t2 : Int)) (hd4 : decode mi.2.1 t1 = .ok (.lconst 0, 1)) (ht3 : t1 + 1 = t2) (hd5 : decode mi.2.1 t2 = .ok (.lastore, 1)) : ho_SS mi ρ T T pc (t2 + 1) (zLz f g h) := by
  intro C hC hr v σ K hK hT hσ kk
  refine hf C hC v σ [] _ hK (Nat.zero_le _) hT hσ fun r σ hKr hr9 hσ => ?_
  refine hg C hC v σ _ _ hKr (by simp only [ho_cs, List.map_cons, List.map_nil, List.sum_cons, List.sum_nil, ho_cat]; omega) hT hσ fun i σ hKi hi hσ => ?_
  refine hh C hC v σ _ _ hKi (by simp only [ho_cs, List.map_cons, List.map_nil, List.sum_cons, List.sum_nil, ho_cat]; omega) hT hσ fun x σ hKx hx hσ => ?_
  have hin : ho_in (if x = 0 then 0 else 1) := by unfold ho_in; split <;> omega
  have kk := kk v _ hKx.2 hT (ho_rng_up hσ hin)
  refine ho_ifeq hC hx hd ht1 (fun q => ?_) (fun q => ?_)
  · rw [if_pos q] at kk
    refine ho_lconst (x := 0) hC (by decide) hd4 ?_
    rw [ht3]
    exact ho_lastore hC hr9 hi (by unfold ho_in; omega) rfl hKx.1.1 hKx.1.2 hd5 kk
  · rw [if_neg q] at kk
    refine ho_lconst (x := 1) hC (by decide) hd2 (ho_go hC hd3 ht2 ?_)
    exact ho_lastore hC hr9 hi (by unfold ho_in; omega) rfl hKx.1.1 hKx.1.2 hd5 kk
/-- what a wrapper's handlers owe: caught by the row x, a number, returned -/
theorem ho_hand {p : Program} {l : Launch} {e : Env} {R : Room} {s : State} {m : MethodId} {args : Array Value} {below : List Frame} {meth : Method} {c : Code} {H : Heap} {locs : List Loc} {dC : Nat → ClassId} {dI : Nat → Nat → Nat} {cA : Nat → ClassId} {ad : Nat → Nat} {A : Nat → Prop} {Q : ho_K} {cc : ByteArray} {ls : Array Slot} {rest : List Value} {q : Addr} {ce : Cell} {σ : ho_S} {ec pc nx : Nat} {n : Int} (pre : List ExceptionTableEntry) (x : ExceptionTableEntry) (suf : List ExceptionTableEntry)
    (he : p.tables.exec = Jvm.exec) (hb : c.code = cc) (ho : s.vm.findClass RL = some m.cls) (hts : ∀ w ∈ ho_TB, w.before args s = true) (hZ : ho_st A s s.heap) (hn : ho_nc9 s) (hret : meth.sig.returnType = some .int) (hlk : meth.locks = false) (hS : va_S A s.heap H locs)
    (htab : c.exceptionTable.toList = pre ++ x :: suf) (hpass : ∀ z ∈ pre, covers z pc = false ∨ (z.catchType ≠ 0 ∧ ∃ k : Nat, Cond.classLink RL z.catchType (ho_ex k) ∈ ho_TB ∧ (ec, k) ∈ ho_NCL)) (hx : covers x pc = true) (h0 : x.catchType ≠ 0) (hlink : Cond.classLink RL x.catchType (ho_ex ec) ∈ ho_TB) (hcast : Cond.castable (ho_ex ec) (ho_ex ec) ∈ ho_NW)
    (hcell : H[q]? = some ce) (hv : ce.vm = .none) (hcl : s.vm.findClass (ho_ex ec) = some ce.cls) (hat : ho_at dC dI cA ad A σ H) (hQ : Q n σ) (hn9 : (decide (-2147483648 ≤ n) && decide (n < 2147483648)) = true)
    (hst : ∀ (Q9 : State → Prop), (∀ ls' : Array Slot, W p l e R s m args below meth c H locs 1 6 Q9 (F0 m nx ls' [])) → W p l e R s m args below meth c H locs 1 6 Q9 (F0 m x.handlerPc ls [.ref q]))
    (d1 : decode cc nx = .ok (.iconst n, 1)) (d2 : decode cc (nx + 1) = .ok (.ireturn, 1)) :
    vx_W p l e R s m args below meth c H locs 1 6 (MQ below (ho_Qc dC dI cA ad A 1 Q) args s 1 6 A) (F0 m pc ls rest) q := by
  refine vx_catch (own := RL) (name := ho_ex ec) (E := ho_ex ec) ho pre x suf htab (fun z hz => (hpass z hz).imp id (fun h => ⟨h.1, ?_⟩)) hx h0 (hts _ hlink) (va_Nw.use rfl (hZ.2.2.1 _ hcast)) hcell hv hcl (hst _ (fun ls' => ?_))
  · obtain ⟨-, k, h1, h2⟩ := h
    exact ⟨ho_ex k, hts _ h1, hn _ h2⟩
  · refine lv_iconst he hb d1 rfl ?_
    exact W.iret (v := Int32.ofInt n) he hb hret (fun t ht hW => ⟨n, σ, rfl, hQ, Or.inr (ho_in_num hn9), by rw [ht]; exact hat, hS.F ht⟩) hS.2.2 d2 hlk
/-- a whole wrapper -/
theorem ho_ofW {y : MethodName} {bytes : ByteArray} {maxL fr lo : Nat} {hh : List (Nat × Nat × Nat × Nat)} {pcs : Nat → Prop} {f : ho_Z} {XX : ho_K → ho_X} (hs : ho_SS (y.cls, bytes, maxL, fr, lo, some .int, pcs, (fun _ => True)) 1 Ta T' 0 pc' f) (hy : plainName y.cls = true) (hlen : Ta.length ≤ maxL) (hown : y.cls = RL)
    (hex : ∀ {p : Program} {l : Launch} {e : Env} {R : Room} {s : State} {m : MethodId} {args : Array Value} {below : List Frame} {meth : Method} {c : Code} {H : Heap} {locs : List Loc} {dC : Nat → ClassId} {dI : Nat → Nat → Nat} {cA : Nat → ClassId} {ad : Nat → Nat} {A : Nat → Prop} {Q : ho_K} {ls : Array Slot} {rest : List Value} {q : Addr} {ce : Cell} {σ : ho_S} {ec pc : Nat} {T : List Nat} {v : List Int}, p.tables.exec = Jvm.exec → c.code = bytes → c.maxLocals = maxL → s.vm.findClass RL = some m.cls → (∀ w ∈ ho_TB, w.before args s = true) → ho_st A s s.heap → ho_nc9 s → meth.sig.returnType = some .int → meth.locks = false → va_S A s.heap H locs → c.exceptionTable.toList = tableOf hh → pcs pc → XX Q ec σ → ho_at dC dI cA ad A σ H → ho_ty T v → ho_ls ad T v ls c.maxLocals → H[q]? = some ce → ce.vm = .none → s.vm.findClass (ho_ex ec) = some ce.cls →
      vx_W p l e R s m args below meth c H locs 1 6 (MQ below (ho_Qc dC dI cA ad A 1 Q) args s 1 6 A) (F0 m pc ls rest) q) : ho_MetW y bytes maxL hh fr lo Ta (fun a σ Q _ => f a σ (fun _ _ => False) Q (XX Q)) := by
  intro l dC dI cA ad A a σ Q hl9 hT hσ hm
  refine MetFree.of_bodyS (code := bytes) (maxLocals := maxL) (ret := some .int) hy ?_ ?_
  · intro args s m h hn
    obtain ⟨m9, meth, c, hn9, h1, h2, h3, h4, -, h5, h6, -⟩ := Cond.codeWith_spec (atoms_spec (ws := Cond.codeWith y bytes maxL (some .int) hh :: ho_TB) h _ List.mem_cons_self)
    cases hn.symm.trans hn9
    exact ⟨meth, c, h1, h2, h3, h4, h5, h6⟩
  · intro p e s m args below meth c s₁ B hml hP _
    have hh0 : s₁.heap = s.heap := by rw [B.state]; rfl
    have hts := atoms_spec (ws := Cond.codeWith y bytes maxL (some .int) hh :: ho_TB) B.pre
    have htab : c.exceptionTable.toList = tableOf hh := vx_table (x := y) (y := y) B (hts _ List.mem_cons_self)
    obtain ⟨⟨rfl, hA, hP, hK, hD, hZ⟩, hnc⟩ := hP
    have hown9 : s.vm.findClass y.cls = some m.cls := findClass_of_methodNamed B.named
    have hts9 : ∀ w ∈ ho_TB, w.before (ho_vals ad Ta a).toArray s = true := fun w hw => hts w (List.mem_cons_of_mem _ hw)
    have hCok : ho_ok (p, l, e, (headSpec (Cond.codeWith y bytes maxL (some .int) hh :: ho_TB) { frames := fr, cells := 1, slots := 6, locals := lo }).room, s, m, (ho_vals ad Ta a).toArray, below, meth, c, dC, dI, cA, ad, A, Q, XX Q, 1, MQ below (ho_Qc dC dI cA ad A 1 Q) (ho_vals ad Ta a).toArray s 1 6 A, 0, 0) (y.cls, bytes, maxL, fr, lo, some .int, pcs, (fun _ => True)) :=
      ⟨B.exec, B.bytes, hml, hown9, hts9, hK, hA, hZ, Nat.le_refl _, Nat.le_refl _, Nat.le_refl _, Nat.le_refl _, B.notSynchronized, hl9,
       fun ec σ H locs q ce pc T v ls rest h1 h2 h3 h4 h5 h6 h7 h8 h9 => hex B.exec B.bytes hml (by rw [← hown]; exact hown9) hts9 hZ hnc B.returns B.notSynchronized h4 htab h1 h2 h3 h5 h6 h7 h8 h9,
       B.returns, fun t ht => by
        obtain ⟨o, b1, b2, b3, L, b4, b5⟩ := ht
        exact ⟨o, b1, b2, b3, L, ⟨b4.1, b4.2.1, b4.2.2.mono (Nat.zero_le _) (Nat.zero_le _)⟩, b5⟩, trivial⟩
    have hW := hs _ hCok rfl a σ (fun _ _ => False) hm hT hσ (fun _ _ h _ _ => h.elim) hT hσ s.heap []
    have hzl : (Ta.zip a).length = Ta.length := by rw [List.length_zip, hT.1, Nat.min_self]
    have hl := lv_entry (ho_vals ad Ta a) (n := maxL) (by rw [ho_lg_len, hzl]; exact hlen)
    have hw := hW ((lg_sl (ho_vals ad Ta a) ++ List.replicate (maxL - (lg_sl (ho_vals ad Ta a)).length) Slot.unset).toArray) ⟨by rw [hl.1, hml], hl.2.1, fun i τ x h1 h2 => by
      have h9 := hl.2.2 _ (ho_lv_args ad Ta a 0 i τ x h1 h2)
      simpa using h9⟩ hP hD va_S.rf
    obtain ⟨t, a1, o, b1, b2, b3⟩ := hw s₁ hh0 (Stand.of_body B)
    rw [← lg_entry_eq] at a1
    exact ⟨t, o, a1, b1, b2, b3⟩
end
def fL_addShot : ho_Z := (zS (zLs (eV 2) (eC 0) (eK mX6_addShot (aC (eV 0) (aC (eV 1) aN)))) (zR (eC 0)))
def xL_addShot (Q : ho_K) : ho_X := fun ec σ => (ec = 0 ∧ Q 1 σ) ∨ (ec = 1 ∧ Q 2 σ)
def mL_addShot : ho_M := fun a σ Q _ => fL_addShot a σ (fun _ _ => False) Q (xL_addShot Q)
def hL_addShot : List (Nat × Nat × Nat × Nat) := [(0, 9, 12, 13), (0, 9, 15, 15)]
abbrev iL_addShot : ho_I := (RL, cL_addShot, 4, 7, 122, (some .int), (fun pc => pc = 4), (fun _ => True))
set_option maxRecDepth 20000 in
theorem kL_addShot : ho_MetW yL_addShot cL_addShot 4 hL_addShot 7 122 [11, 0, 4] mL_addShot := by
  have fin : ho_SS iL_addShot 1 [11, 0, 4] [11, 0, 4] 0 9999 fL_addShot := ss_seq (ss_go (tgt := 18) (ss_lst (se_aload_n rfl rfl dL_addShot_0) (se_iconst dL_addShot_1 rfl) (se_callV kX6_addShot (sa_cons (se_aload_n rfl rfl dL_addShot_2) (sa_cons (se_iload_n rfl rfl dL_addShot_3) sa_nil)) dL_addShot_4 wk_702 wk_703 wk_704 hcX6 wk_4 wk_705 ykX6_addShot (by decide) (by decide) (by decide) rfl) dL_addShot_7 dL_addShot_8) dL_addShot_9 rfl) (ss_ret (se_iconst dL_addShot_18 rfl) rfl dL_addShot_19)
  refine ho_ofW (XX := xL_addShot) fin (by decide +kernel) (by decide) rfl ?_
  intro p l e R s m args below meth c H locs dC dI cA ad A Q ls rest q ce σ ec pc T v he hb hm ho hts hZ hn hret hlk hS htab hpc hX hat hT hl h7 h8 h9
  cases hpc
  have hh9 := ho_ls_has hl hT
  rcases hX with ⟨rfl, hX⟩ | ⟨rfl, hX⟩
  · exact ho_hand (n := 1) (nx := 13) [] ⟨0, 9, 12, 13⟩ [⟨0, 9, 15, 15⟩] he hb ho hts hZ hn hret hlk hS htab (fun z hz => absurd hz List.not_mem_nil) (by decide) (by decide) wk_706 wk_707 h7 h8 h9 hat hX rfl (fun Q9 kk => lv_astore_n he hb dL_addShot_12 rfl hh9 (by rw [hm]; decide) rfl (fun ls' _ => kk ls')) dL_addShot_13 dL_addShot_14
  · exact ho_hand (n := 2) (nx := 16) [⟨0, 9, 12, 13⟩] ⟨0, 9, 15, 15⟩ [] he hb ho hts hZ hn hret hlk hS htab (fun z hz => by rcases List.mem_singleton.mp hz with rfl; exact Or.inr ⟨by decide, 0, wk_706, by decide⟩) (by decide) (by decide) wk_708 wk_709 h7 h8 h9 hat hX rfl (fun Q9 kk => lv_astore_n he hb dL_addShot_15 rfl hh9 (by rw [hm]; decide) rfl (fun ls' _ => kk ls')) dL_addShot_16 dL_addShot_17
def fL_cut : ho_Z := (zS (zLs (eV 3) (eC 0) (eK mX6_cut (aC (eV 0) (aC (eV 1) (aC (eV 2) aN))))) (zR (eC 0)))
def xL_cut (Q : ho_K) : ho_X := fun ec σ => (ec = 2 ∧ Q 1 σ) ∨ (ec = 0 ∧ Q 2 σ)
def mL_cut : ho_M := fun a σ Q _ => fL_cut a σ (fun _ _ => False) Q (xL_cut Q)
def hL_cut : List (Nat × Nat × Nat × Nat) := [(0, 10, 13, 21), (0, 10, 17, 13)]
abbrev iL_cut : ho_I := (RL, cL_cut, 5, 8, 125, (some .int), (fun pc => pc = 5), (fun _ => True))
set_option maxRecDepth 20000 in
theorem kL_cut : ho_MetW yL_cut cL_cut 5 hL_cut 8 125 [11, 0, 0, 4] mL_cut := by
  have fin : ho_SS iL_cut 1 [11, 0, 0, 4] [11, 0, 0, 4] 0 9999 fL_cut := ss_seq (ss_go (tgt := 21) (ss_lst (se_aload_n rfl rfl dL_cut_0) (se_iconst dL_cut_1 rfl) (se_callV kX6_cut (sa_cons (se_aload_n rfl rfl dL_cut_2) (sa_cons (se_iload_n rfl rfl dL_cut_3) (sa_cons (se_iload_n rfl rfl dL_cut_4) sa_nil))) dL_cut_5 wk_710 wk_711 wk_712 hcX6 wk_4 wk_713 ykX6_cut (by decide) (by decide) (by decide) rfl) dL_cut_8 dL_cut_9) dL_cut_10 rfl) (ss_ret (se_iconst dL_cut_21 rfl) rfl dL_cut_22)
  refine ho_ofW (XX := xL_cut) fin (by decide +kernel) (by decide) rfl ?_
  intro p l e R s m args below meth c H locs dC dI cA ad A Q ls rest q ce σ ec pc T v he hb hm ho hts hZ hn hret hlk hS htab hpc hX hat hT hl h7 h8 h9
  cases hpc
  have hh9 := ho_ls_has hl hT
  rcases hX with ⟨rfl, hX⟩ | ⟨rfl, hX⟩
  · exact ho_hand (n := 1) (nx := 15) [] ⟨0, 10, 13, 21⟩ [⟨0, 10, 17, 13⟩] he hb ho hts hZ hn hret hlk hS htab (fun z hz => absurd hz List.not_mem_nil) (by decide) (by decide) wk_714 wk_715 h7 h8 h9 hat hX rfl (fun Q9 kk => lv_astore he hb dL_cut_13 hh9 (by rw [hm]; decide) rfl (fun ls' _ => kk ls')) dL_cut_15 dL_cut_16
  · exact ho_hand (n := 2) (nx := 19) [⟨0, 10, 13, 21⟩] ⟨0, 10, 17, 13⟩ [] he hb ho hts hZ hn hret hlk hS htab (fun z hz => by rcases List.mem_singleton.mp hz with rfl; exact Or.inr ⟨by decide, 2, wk_714, by decide⟩) (by decide) (by decide) wk_706 wk_707 h7 h8 h9 hat hX rfl (fun Q9 kk => lv_astore he hb dL_cut_17 hh9 (by rw [hm]; decide) rfl (fun ls' _ => kk ls')) dL_cut_19 dL_cut_20
def fL_move : ho_Z := (zS (zLs (eV 4) (eC 0) (eK mX6_move (aC (eV 0) (aC (eV 1) (aC (eV 2) (aC (eV 3) aN)))))) (zR (eC 0)))
def xL_move (Q : ho_K) : ho_X := fun ec σ => (ec = 2 ∧ Q 1 σ) ∨ (ec = 0 ∧ Q 2 σ)
def mL_move : ho_M := fun a σ Q _ => fL_move a σ (fun _ _ => False) Q (xL_move Q)
def hL_move : List (Nat × Nat × Nat × Nat) := [(0, 12, 15, 21), (0, 12, 19, 13)]
abbrev iL_move : ho_I := (RL, cL_move, 6, 8, 126, (some .int), (fun pc => pc = 7), (fun _ => True))
set_option maxRecDepth 20000 in
theorem kL_move : ho_MetW yL_move cL_move 6 hL_move 8 126 [11, 0, 0, 0, 4] mL_move := by
  have fin : ho_SS iL_move 1 [11, 0, 0, 0, 4] [11, 0, 0, 0, 4] 0 9999 fL_move := ss_seq (ss_go (tgt := 23) (ss_lst (se_aload rfl dL_move_0) (se_iconst dL_move_2 rfl) (se_callV kX6_move (sa_cons (se_aload_n rfl rfl dL_move_3) (sa_cons (se_iload_n rfl rfl dL_move_4) (sa_cons (se_iload_n rfl rfl dL_move_5) (sa_cons (se_iload_n rfl rfl dL_move_6) sa_nil)))) dL_move_7 wk_716 wk_717 wk_718 hcX6 wk_4 wk_719 ykX6_move (by decide) (by decide) (by decide) rfl) dL_move_10 dL_move_11) dL_move_12 rfl) (ss_ret (se_iconst dL_move_23 rfl) rfl dL_move_24)
  refine ho_ofW (XX := xL_move) fin (by decide +kernel) (by decide) rfl ?_
  intro p l e R s m args below meth c H locs dC dI cA ad A Q ls rest q ce σ ec pc T v he hb hm ho hts hZ hn hret hlk hS htab hpc hX hat hT hl h7 h8 h9
  cases hpc
  have hh9 := ho_ls_has hl hT
  rcases hX with ⟨rfl, hX⟩ | ⟨rfl, hX⟩
  · exact ho_hand (n := 1) (nx := 17) [] ⟨0, 12, 15, 21⟩ [⟨0, 12, 19, 13⟩] he hb ho hts hZ hn hret hlk hS htab (fun z hz => absurd hz List.not_mem_nil) (by decide) (by decide) wk_714 wk_715 h7 h8 h9 hat hX rfl (fun Q9 kk => lv_astore he hb dL_move_15 hh9 (by rw [hm]; decide) rfl (fun ls' _ => kk ls')) dL_move_17 dL_move_18
  · exact ho_hand (n := 2) (nx := 21) [⟨0, 12, 15, 21⟩] ⟨0, 12, 19, 13⟩ [] he hb ho hts hZ hn hret hlk hS htab (fun z hz => by rcases List.mem_singleton.mp hz with rfl; exact Or.inr ⟨by decide, 2, wk_714, by decide⟩) (by decide) (by decide) wk_706 wk_707 h7 h8 h9 hat hX rfl (fun Q9 kk => lv_astore he hb dL_move_19 hh9 (by rw [hm]; decide) rfl (fun ls' _ => kk ls')) dL_move_21 dL_move_22
def fL_putBack : ho_Z := (zS (zLs (eV 5) (eC 0) (eK mX6_putBack (aC (eV 0) (aC (eV 1) (aC (eV 2) (aC (eV 3) (aC (eV 4) aN))))))) (zR (eC 0)))
def xL_putBack (Q : ho_K) : ho_X := fun ec σ => (ec = 2 ∧ Q 1 σ) ∨ (ec = 0 ∧ Q 2 σ) ∨ (ec = 1 ∧ Q 3 σ)
def mL_putBack : ho_M := fun a σ Q _ => fL_putBack a σ (fun _ _ => False) Q (xL_putBack Q)
def hL_putBack : List (Nat × Nat × Nat × Nat) := [(0, 14, 17, 21), (0, 14, 21, 13), (0, 14, 25, 15)]
abbrev iL_putBack : ho_I := (RL, cL_putBack, 7, 8, 128, (some .int), (fun pc => pc = 9), (fun _ => True))
set_option maxRecDepth 20000 in
theorem kL_putBack : ho_MetW yL_putBack cL_putBack 7 hL_putBack 8 128 [11, 0, 0, 0, 0, 4] mL_putBack := by
  have fin : ho_SS iL_putBack 1 [11, 0, 0, 0, 0, 4] [11, 0, 0, 0, 0, 4] 0 9999 fL_putBack := ss_seq (ss_go (tgt := 29) (ss_lst (se_aload rfl dL_putBack_0) (se_iconst dL_putBack_2 rfl) (se_callV kX6_putBack (sa_cons (se_aload_n rfl rfl dL_putBack_3) (sa_cons (se_iload_n rfl rfl dL_putBack_4) (sa_cons (se_iload_n rfl rfl dL_putBack_5) (sa_cons (se_iload_n rfl rfl dL_putBack_6) (sa_cons (se_iload rfl dL_putBack_7) sa_nil))))) dL_putBack_9 wk_720 wk_721 wk_722 hcX6 wk_4 wk_723 ykX6_putBack (by decide) (by decide) (by decide) rfl) dL_putBack_12 dL_putBack_13) dL_putBack_14 rfl) (ss_ret (se_iconst dL_putBack_29 rfl) rfl dL_putBack_30)
  refine ho_ofW (XX := xL_putBack) fin (by decide +kernel) (by decide) rfl ?_
  intro p l e R s m args below meth c H locs dC dI cA ad A Q ls rest q ce σ ec pc T v he hb hm ho hts hZ hn hret hlk hS htab hpc hX hat hT hl h7 h8 h9
  cases hpc
  have hh9 := ho_ls_has hl hT
  rcases hX with ⟨rfl, hX⟩ | ⟨rfl, hX⟩ | ⟨rfl, hX⟩
  · exact ho_hand (n := 1) (nx := 19) [] ⟨0, 14, 17, 21⟩ [⟨0, 14, 21, 13⟩, ⟨0, 14, 25, 15⟩] he hb ho hts hZ hn hret hlk hS htab (fun z hz => absurd hz List.not_mem_nil) (by decide) (by decide) wk_714 wk_715 h7 h8 h9 hat hX rfl (fun Q9 kk => lv_astore he hb dL_putBack_17 hh9 (by rw [hm]; decide) rfl (fun ls' _ => kk ls')) dL_putBack_19 dL_putBack_20
  · exact ho_hand (n := 2) (nx := 23) [⟨0, 14, 17, 21⟩] ⟨0, 14, 21, 13⟩ [⟨0, 14, 25, 15⟩] he hb ho hts hZ hn hret hlk hS htab (fun z hz => by rcases List.mem_singleton.mp hz with rfl; exact Or.inr ⟨by decide, 2, wk_714, by decide⟩) (by decide) (by decide) wk_706 wk_707 h7 h8 h9 hat hX rfl (fun Q9 kk => lv_astore he hb dL_putBack_21 hh9 (by rw [hm]; decide) rfl (fun ls' _ => kk ls')) dL_putBack_23 dL_putBack_24
  · exact ho_hand (n := 3) (nx := 27) [⟨0, 14, 17, 21⟩, ⟨0, 14, 21, 13⟩] ⟨0, 14, 25, 15⟩ [] he hb ho hts hZ hn hret hlk hS htab (fun z hz => by rcases List.mem_cons.mp hz with rfl | hz; exact Or.inr ⟨by decide, 2, wk_714, by decide⟩; rcases List.mem_singleton.mp hz with rfl; exact Or.inr ⟨by decide, 0, wk_706, by decide⟩) (by decide) (by decide) wk_708 wk_709 h7 h8 h9 hat hX rfl (fun Q9 kk => lv_astore he hb dL_putBack_25 hh9 (by rw [hm]; decide) rfl (fun ls' _ => kk ls')) dL_putBack_27 dL_putBack_28
def fL_frameAt : ho_Z := (zS (zLs (eV 2) (eC 0) (eK mX6_frameAt (aC (eV 0) (aC (eV 1) aN)))) (zR (eC 0)))
def xL_frameAt (Q : ho_K) : ho_X := fun ec σ => (ec = 2 ∧ Q 1 σ)
def mL_frameAt : ho_M := fun a σ Q _ => fL_frameAt a σ (fun _ _ => False) Q (xL_frameAt Q)
def hL_frameAt : List (Nat × Nat × Nat × Nat) := [(0, 9, 12, 21)]
abbrev iL_frameAt : ho_I := (RL, cL_frameAt, 4, 8, 125, (some .int), (fun pc => pc = 4), (fun _ => True))
set_option maxRecDepth 20000 in
theorem kL_frameAt : ho_MetW yL_frameAt cL_frameAt 4 hL_frameAt 8 125 [11, 0, 4] mL_frameAt := by
  have fin : ho_SS iL_frameAt 1 [11, 0, 4] [11, 0, 4] 0 9999 fL_frameAt := ss_seq (ss_go (tgt := 15) (ss_lst (se_aload_n rfl rfl dL_frameAt_0) (se_iconst dL_frameAt_1 rfl) (se_callV kX6_frameAt (sa_cons (se_aload_n rfl rfl dL_frameAt_2) (sa_cons (se_iload_n rfl rfl dL_frameAt_3) sa_nil)) dL_frameAt_4 wk_724 wk_725 wk_726 hcX6 wk_4 wk_727 ykX6_frameAt (by decide) (by decide) (by decide) rfl) dL_frameAt_7 dL_frameAt_8) dL_frameAt_9 rfl) (ss_ret (se_iconst dL_frameAt_15 rfl) rfl dL_frameAt_16)
  refine ho_ofW (XX := xL_frameAt) fin (by decide +kernel) (by decide) rfl ?_
  intro p l e R s m args below meth c H locs dC dI cA ad A Q ls rest q ce σ ec pc T v he hb hm ho hts hZ hn hret hlk hS htab hpc hX hat hT hl h7 h8 h9
  cases hpc
  have hh9 := ho_ls_has hl hT
  obtain ⟨rfl, hX⟩ := hX
  exact ho_hand (n := 1) (nx := 13) [] ⟨0, 9, 12, 21⟩ [] he hb ho hts hZ hn hret hlk hS htab (fun z hz => absurd hz List.not_mem_nil) (by decide) (by decide) wk_714 wk_715 h7 h8 h9 hat hX rfl (fun Q9 kk => lv_astore_n he hb dL_frameAt_12 rfl hh9 (by rw [hm]; decide) rfl (fun ls' _ => kk ls')) dL_frameAt_13 dL_frameAt_14
def fL_placeOf : ho_Z := (zS (zLs (eV 3) (eC 0) (eK mX6_placeOf (aC (eV 0) (aC (eV 1) (aC (eV 2) aN))))) (zR (eC 0)))
def xL_placeOf (Q : ho_K) : ho_X := fun ec σ => (ec = 2 ∧ Q 1 σ)
def mL_placeOf : ho_M := fun a σ Q _ => fL_placeOf a σ (fun _ _ => False) Q (xL_placeOf Q)
def hL_placeOf : List (Nat × Nat × Nat × Nat) := [(0, 10, 13, 21)]
abbrev iL_placeOf : ho_I := (RL, cL_placeOf, 5, 8, 126, (some .int), (fun pc => pc = 5), (fun _ => True))
set_option maxRecDepth 20000 in
theorem kL_placeOf : ho_MetW yL_placeOf cL_placeOf 5 hL_placeOf 8 126 [11, 0, 0, 4] mL_placeOf := by
  have fin : ho_SS iL_placeOf 1 [11, 0, 0, 4] [11, 0, 0, 4] 0 9999 fL_placeOf := ss_seq (ss_go (tgt := 17) (ss_lst (se_aload_n rfl rfl dL_placeOf_0) (se_iconst dL_placeOf_1 rfl) (se_callV kX6_placeOf (sa_cons (se_aload_n rfl rfl dL_placeOf_2) (sa_cons (se_iload_n rfl rfl dL_placeOf_3) (sa_cons (se_iload_n rfl rfl dL_placeOf_4) sa_nil))) dL_placeOf_5 wk_728 wk_729 wk_730 hcX6 wk_4 wk_731 ykX6_placeOf (by decide) (by decide) (by decide) rfl) dL_placeOf_8 dL_placeOf_9) dL_placeOf_10 rfl) (ss_ret (se_iconst dL_placeOf_17 rfl) rfl dL_placeOf_18)
  refine ho_ofW (XX := xL_placeOf) fin (by decide +kernel) (by decide) rfl ?_
  intro p l e R s m args below meth c H locs dC dI cA ad A Q ls rest q ce σ ec pc T v he hb hm ho hts hZ hn hret hlk hS htab hpc hX hat hT hl h7 h8 h9
  cases hpc
  have hh9 := ho_ls_has hl hT
  obtain ⟨rfl, hX⟩ := hX
  exact ho_hand (n := 1) (nx := 15) [] ⟨0, 10, 13, 21⟩ [] he hb ho hts hZ hn hret hlk hS htab (fun z hz => absurd hz List.not_mem_nil) (by decide) (by decide) wk_714 wk_715 h7 h8 h9 hat hX rfl (fun Q9 kk => lv_astore he hb dL_placeOf_13 hh9 (by rw [hm]; decide) rfl (fun ls' _ => kk ls')) dL_placeOf_15 dL_placeOf_16
def fL_isBoundary : ho_Z := (zS (zLz (eV 2) (eC 0) (eK mX6_isBoundary (aC (eV 0) (aC (eV 1) aN)))) (zR (eC 0)))
def xL_isBoundary (Q : ho_K) : ho_X := fun ec σ => (ec = 2 ∧ Q 1 σ)
def mL_isBoundary : ho_M := fun a σ Q _ => fL_isBoundary a σ (fun _ _ => False) Q (xL_isBoundary Q)
def hL_isBoundary : List (Nat × Nat × Nat × Nat) := [(0, 16, 19, 21)]
abbrev iL_isBoundary : ho_I := (RL, cL_isBoundary, 4, 8, 124, (some .int), (fun pc => pc = 4), (fun _ => True))
set_option maxRecDepth 20000 in
theorem kL_isBoundary : ho_MetW yL_isBoundary cL_isBoundary 4 hL_isBoundary 8 124 [11, 0, 4] mL_isBoundary := by
  have fin : ho_SS iL_isBoundary 1 [11, 0, 4] [11, 0, 4] 0 9999 fL_isBoundary := ss_seq (ss_go (tgt := 22) (ss_lsz (t1 := 14) (t2 := 15) (se_aload_n rfl rfl dL_isBoundary_0) (se_iconst dL_isBoundary_1 rfl) (se_callV kX6_isBoundary (sa_cons (se_aload_n rfl rfl dL_isBoundary_2) (sa_cons (se_iload_n rfl rfl dL_isBoundary_3) sa_nil)) dL_isBoundary_4 wk_732 wk_733 wk_734 hcX6 wk_4 wk_735 ykX6_isBoundary (by decide) (by decide) (by decide) rfl) dL_isBoundary_7 rfl dL_isBoundary_10 dL_isBoundary_11 rfl dL_isBoundary_14 rfl dL_isBoundary_15) dL_isBoundary_16 rfl) (ss_ret (se_iconst dL_isBoundary_22 rfl) rfl dL_isBoundary_23)
  refine ho_ofW (XX := xL_isBoundary) fin (by decide +kernel) (by decide) rfl ?_
  intro p l e R s m args below meth c H locs dC dI cA ad A Q ls rest q ce σ ec pc T v he hb hm ho hts hZ hn hret hlk hS htab hpc hX hat hT hl h7 h8 h9
  cases hpc
  have hh9 := ho_ls_has hl hT
  obtain ⟨rfl, hX⟩ := hX
  exact ho_hand (n := 1) (nx := 20) [] ⟨0, 16, 19, 21⟩ [] he hb ho hts hZ hn hret hlk hS htab (fun z hz => absurd hz List.not_mem_nil) (by decide) (by decide) wk_714 wk_715 h7 h8 h9 hat hX rfl (fun Q9 kk => lv_astore_n he hb dL_isBoundary_19 rfl hh9 (by rw [hm]; decide) rfl (fun ls' _ => kk ls')) dL_isBoundary_20 dL_isBoundary_21
def fL_add : ho_Z := (zS (zLs (eV 3) (eC 0) (eK mX6_add (aC (eV 0) (aC (eV 1) (aC (eV 2) aN))))) (zR (eC 0)))
def xL_add (Q : ho_K) : ho_X := fun ec σ => (ec = 2 ∧ Q 1 σ) ∨ (ec = 0 ∧ Q 2 σ) ∨ (ec = 1 ∧ Q 3 σ)
def mL_add : ho_M := fun a σ Q _ => fL_add a σ (fun _ _ => False) Q (xL_add Q)
def hL_add : List (Nat × Nat × Nat × Nat) := [(0, 10, 13, 21), (0, 10, 17, 13), (0, 10, 21, 15)]
abbrev iL_add : ho_I := (RL, cL_add, 5, 9, 148, (some .int), (fun pc => pc = 5), (fun _ => True))
set_option maxRecDepth 20000 in
theorem kL_add : ho_MetW yL_add cL_add 5 hL_add 9 148 [11, 0, 0, 4] mL_add := by
  have fin : ho_SS iL_add 1 [11, 0, 0, 4] [11, 0, 0, 4] 0 9999 fL_add := ss_seq (ss_go (tgt := 25) (ss_lst (se_aload_n rfl rfl dL_add_0) (se_iconst dL_add_1 rfl) (se_callV kX6_add (sa_cons (se_aload_n rfl rfl dL_add_2) (sa_cons (se_iload_n rfl rfl dL_add_3) (sa_cons (se_iload_n rfl rfl dL_add_4) sa_nil))) dL_add_5 wk_736 wk_737 wk_738 hcX6 wk_4 wk_739 ykX6_add (by decide) (by decide) (by decide) rfl) dL_add_8 dL_add_9) dL_add_10 rfl) (ss_ret (se_iconst dL_add_25 rfl) rfl dL_add_26)
  refine ho_ofW (XX := xL_add) fin (by decide +kernel) (by decide) rfl ?_
  intro p l e R s m args below meth c H locs dC dI cA ad A Q ls rest q ce σ ec pc T v he hb hm ho hts hZ hn hret hlk hS htab hpc hX hat hT hl h7 h8 h9
  cases hpc
  have hh9 := ho_ls_has hl hT
  rcases hX with ⟨rfl, hX⟩ | ⟨rfl, hX⟩ | ⟨rfl, hX⟩
  · exact ho_hand (n := 1) (nx := 15) [] ⟨0, 10, 13, 21⟩ [⟨0, 10, 17, 13⟩, ⟨0, 10, 21, 15⟩] he hb ho hts hZ hn hret hlk hS htab (fun z hz => absurd hz List.not_mem_nil) (by decide) (by decide) wk_714 wk_715 h7 h8 h9 hat hX rfl (fun Q9 kk => lv_astore he hb dL_add_13 hh9 (by rw [hm]; decide) rfl (fun ls' _ => kk ls')) dL_add_15 dL_add_16
  · exact ho_hand (n := 2) (nx := 19) [⟨0, 10, 13, 21⟩] ⟨0, 10, 17, 13⟩ [⟨0, 10, 21, 15⟩] he hb ho hts hZ hn hret hlk hS htab (fun z hz => by rcases List.mem_singleton.mp hz with rfl; exact Or.inr ⟨by decide, 2, wk_714, by decide⟩) (by decide) (by decide) wk_706 wk_707 h7 h8 h9 hat hX rfl (fun Q9 kk => lv_astore he hb dL_add_17 hh9 (by rw [hm]; decide) rfl (fun ls' _ => kk ls')) dL_add_19 dL_add_20
  · exact ho_hand (n := 3) (nx := 23) [⟨0, 10, 13, 21⟩, ⟨0, 10, 17, 13⟩] ⟨0, 10, 21, 15⟩ [] he hb ho hts hZ hn hret hlk hS htab (fun z hz => by rcases List.mem_cons.mp hz with rfl | hz; exact Or.inr ⟨by decide, 2, wk_714, by decide⟩; rcases List.mem_singleton.mp hz with rfl; exact Or.inr ⟨by decide, 0, wk_706, by decide⟩) (by decide) (by decide) wk_708 wk_709 h7 h8 h9 hat hX rfl (fun Q9 kk => lv_astore he hb dL_add_21 hh9 (by rw [hm]; decide) rfl (fun ls' _ => kk ls')) dL_add_23 dL_add_24
def fL_lay : ho_Z := (zS (zLs (eV 4) (eC 0) (eK mX6_lay (aC (eV 0) (aC (eV 1) (aC (eV 2) (aC (eV 3) aN)))))) (zR (eC 0)))
def xL_lay (Q : ho_K) : ho_X := fun ec σ => (ec = 2 ∧ Q 1 σ) ∨ (ec = 0 ∧ Q 2 σ)
def mL_lay : ho_M := fun a σ Q _ => fL_lay a σ (fun _ _ => False) Q (xL_lay Q)
def hL_lay : List (Nat × Nat × Nat × Nat) := [(0, 12, 15, 21), (0, 12, 19, 13)]
abbrev iL_lay : ho_I := (RL, cL_lay, 6, 9, 149, (some .int), (fun pc => pc = 7), (fun _ => True))
set_option maxRecDepth 20000 in
theorem kL_lay : ho_MetW yL_lay cL_lay 6 hL_lay 9 149 [11, 0, 0, 0, 4] mL_lay := by
  have fin : ho_SS iL_lay 1 [11, 0, 0, 0, 4] [11, 0, 0, 0, 4] 0 9999 fL_lay := ss_seq (ss_go (tgt := 23) (ss_lst (se_aload rfl dL_lay_0) (se_iconst dL_lay_2 rfl) (se_callV kX6_lay (sa_cons (se_aload_n rfl rfl dL_lay_3) (sa_cons (se_iload_n rfl rfl dL_lay_4) (sa_cons (se_iload_n rfl rfl dL_lay_5) (sa_cons (se_iload_n rfl rfl dL_lay_6) sa_nil)))) dL_lay_7 wk_740 wk_741 wk_742 hcX6 wk_4 wk_743 ykX6_lay (by decide) (by decide) (by decide) rfl) dL_lay_10 dL_lay_11) dL_lay_12 rfl) (ss_ret (se_iconst dL_lay_23 rfl) rfl dL_lay_24)
  refine ho_ofW (XX := xL_lay) fin (by decide +kernel) (by decide) rfl ?_
  intro p l e R s m args below meth c H locs dC dI cA ad A Q ls rest q ce σ ec pc T v he hb hm ho hts hZ hn hret hlk hS htab hpc hX hat hT hl h7 h8 h9
  cases hpc
  have hh9 := ho_ls_has hl hT
  rcases hX with ⟨rfl, hX⟩ | ⟨rfl, hX⟩
  · exact ho_hand (n := 1) (nx := 17) [] ⟨0, 12, 15, 21⟩ [⟨0, 12, 19, 13⟩] he hb ho hts hZ hn hret hlk hS htab (fun z hz => absurd hz List.not_mem_nil) (by decide) (by decide) wk_714 wk_715 h7 h8 h9 hat hX rfl (fun Q9 kk => lv_astore he hb dL_lay_15 hh9 (by rw [hm]; decide) rfl (fun ls' _ => kk ls')) dL_lay_17 dL_lay_18
  · exact ho_hand (n := 2) (nx := 21) [⟨0, 12, 15, 21⟩] ⟨0, 12, 19, 13⟩ [] he hb ho hts hZ hn hret hlk hS htab (fun z hz => by rcases List.mem_singleton.mp hz with rfl; exact Or.inr ⟨by decide, 2, wk_714, by decide⟩) (by decide) (by decide) wk_706 wk_707 h7 h8 h9 hat hX rfl (fun Q9 kk => lv_astore he hb dL_lay_19 hh9 (by rw [hm]; decide) rfl (fun ls' _ => kk ls')) dL_lay_21 dL_lay_22
def fL_setLook : ho_Z := (zS (zLs (eV 3) (eC 0) (eK mX6_setLook (aC (eV 0) (aC (eV 1) (aC (eV 2) aN))))) (zR (eC 0)))
def xL_setLook (Q : ho_K) : ho_X := fun ec σ => (ec = 2 ∧ Q 1 σ) ∨ (ec = 0 ∧ Q 2 σ)
def mL_setLook : ho_M := fun a σ Q _ => fL_setLook a σ (fun _ _ => False) Q (xL_setLook Q)
def hL_setLook : List (Nat × Nat × Nat × Nat) := [(0, 10, 13, 21), (0, 10, 17, 13)]
abbrev iL_setLook : ho_I := (RL, cL_setLook, 5, 8, 126, (some .int), (fun pc => pc = 5), (fun _ => True))
set_option maxRecDepth 20000 in
theorem kL_setLook : ho_MetW yL_setLook cL_setLook 5 hL_setLook 8 126 [11, 0, 0, 4] mL_setLook := by
  have fin : ho_SS iL_setLook 1 [11, 0, 0, 4] [11, 0, 0, 4] 0 9999 fL_setLook := ss_seq (ss_go (tgt := 21) (ss_lst (se_aload_n rfl rfl dL_setLook_0) (se_iconst dL_setLook_1 rfl) (se_callV kX6_setLook (sa_cons (se_aload_n rfl rfl dL_setLook_2) (sa_cons (se_iload_n rfl rfl dL_setLook_3) (sa_cons (se_iload_n rfl rfl dL_setLook_4) sa_nil))) dL_setLook_5 wk_744 wk_745 wk_746 hcX6 wk_4 wk_747 ykX6_setLook (by decide) (by decide) (by decide) rfl) dL_setLook_8 dL_setLook_9) dL_setLook_10 rfl) (ss_ret (se_iconst dL_setLook_21 rfl) rfl dL_setLook_22)
  refine ho_ofW (XX := xL_setLook) fin (by decide +kernel) (by decide) rfl ?_
  intro p l e R s m args below meth c H locs dC dI cA ad A Q ls rest q ce σ ec pc T v he hb hm ho hts hZ hn hret hlk hS htab hpc hX hat hT hl h7 h8 h9
  cases hpc
  have hh9 := ho_ls_has hl hT
  rcases hX with ⟨rfl, hX⟩ | ⟨rfl, hX⟩
  · exact ho_hand (n := 1) (nx := 15) [] ⟨0, 10, 13, 21⟩ [⟨0, 10, 17, 13⟩] he hb ho hts hZ hn hret hlk hS htab (fun z hz => absurd hz List.not_mem_nil) (by decide) (by decide) wk_714 wk_715 h7 h8 h9 hat hX rfl (fun Q9 kk => lv_astore he hb dL_setLook_13 hh9 (by rw [hm]; decide) rfl (fun ls' _ => kk ls')) dL_setLook_15 dL_setLook_16
  · exact ho_hand (n := 2) (nx := 19) [⟨0, 10, 13, 21⟩] ⟨0, 10, 17, 13⟩ [] he hb ho hts hZ hn hret hlk hS htab (fun z hz => by rcases List.mem_singleton.mp hz with rfl; exact Or.inr ⟨by decide, 2, wk_714, by decide⟩) (by decide) (by decide) wk_706 wk_707 h7 h8 h9 hat hX rfl (fun Q9 kk => lv_astore he hb dL_setLook_17 hh9 (by rw [hm]; decide) rfl (fun ls' _ => kk ls')) dL_setLook_19 dL_setLook_20
def fL_startOf : ho_Z := (zS (zLs (eV 2) (eC 0) (eK mX6_startOf (aC (eV 0) (aC (eV 1) aN)))) (zR (eC 0)))
def xL_startOf (Q : ho_K) : ho_X := fun ec σ => (ec = 2 ∧ Q 1 σ)
def mL_startOf : ho_M := fun a σ Q _ => fL_startOf a σ (fun _ _ => False) Q (xL_startOf Q)
def hL_startOf : List (Nat × Nat × Nat × Nat) := [(0, 9, 12, 21)]
abbrev iL_startOf : ho_I := (RL, cL_startOf, 4, 8, 124, (some .int), (fun pc => pc = 4), (fun _ => True))
set_option maxRecDepth 20000 in
theorem kL_startOf : ho_MetW yL_startOf cL_startOf 4 hL_startOf 8 124 [11, 0, 4] mL_startOf := by
  have fin : ho_SS iL_startOf 1 [11, 0, 4] [11, 0, 4] 0 9999 fL_startOf := ss_seq (ss_go (tgt := 15) (ss_lst (se_aload_n rfl rfl dL_startOf_0) (se_iconst dL_startOf_1 rfl) (se_callV kX6_startOf (sa_cons (se_aload_n rfl rfl dL_startOf_2) (sa_cons (se_iload_n rfl rfl dL_startOf_3) sa_nil)) dL_startOf_4 wk_748 wk_749 wk_750 hcX6 wk_4 wk_751 ykX6_startOf (by decide) (by decide) (by decide) rfl) dL_startOf_7 dL_startOf_8) dL_startOf_9 rfl) (ss_ret (se_iconst dL_startOf_15 rfl) rfl dL_startOf_16)
  refine ho_ofW (XX := xL_startOf) fin (by decide +kernel) (by decide) rfl ?_
  intro p l e R s m args below meth c H locs dC dI cA ad A Q ls rest q ce σ ec pc T v he hb hm ho hts hZ hn hret hlk hS htab hpc hX hat hT hl h7 h8 h9
  cases hpc
  have hh9 := ho_ls_has hl hT
  obtain ⟨rfl, hX⟩ := hX
  exact ho_hand (n := 1) (nx := 13) [] ⟨0, 9, 12, 21⟩ [] he hb ho hts hZ hn hret hlk hS htab (fun z hz => absurd hz List.not_mem_nil) (by decide) (by decide) wk_714 wk_715 h7 h8 h9 hat hX rfl (fun Q9 kk => lv_astore_n he hb dL_startOf_12 rfl hh9 (by rw [hm]; decide) rfl (fun ls' _ => kk ls')) dL_startOf_13 dL_startOf_14
def fL_lengthOf : ho_Z := (zS (zLs (eV 2) (eC 0) (eK mX6_lengthOf (aC (eV 0) (aC (eV 1) aN)))) (zR (eC 0)))
def xL_lengthOf (Q : ho_K) : ho_X := fun ec σ => (ec = 2 ∧ Q 1 σ)
def mL_lengthOf : ho_M := fun a σ Q _ => fL_lengthOf a σ (fun _ _ => False) Q (xL_lengthOf Q)
def hL_lengthOf : List (Nat × Nat × Nat × Nat) := [(0, 9, 12, 21)]
abbrev iL_lengthOf : ho_I := (RL, cL_lengthOf, 4, 8, 124, (some .int), (fun pc => pc = 4), (fun _ => True))
set_option maxRecDepth 20000 in
theorem kL_lengthOf : ho_MetW yL_lengthOf cL_lengthOf 4 hL_lengthOf 8 124 [11, 0, 4] mL_lengthOf := by
  have fin : ho_SS iL_lengthOf 1 [11, 0, 4] [11, 0, 4] 0 9999 fL_lengthOf := ss_seq (ss_go (tgt := 15) (ss_lst (se_aload_n rfl rfl dL_lengthOf_0) (se_iconst dL_lengthOf_1 rfl) (se_callV kX6_lengthOf (sa_cons (se_aload_n rfl rfl dL_lengthOf_2) (sa_cons (se_iload_n rfl rfl dL_lengthOf_3) sa_nil)) dL_lengthOf_4 wk_752 wk_753 wk_754 hcX6 wk_4 wk_755 ykX6_lengthOf (by decide) (by decide) (by decide) rfl) dL_lengthOf_7 dL_lengthOf_8) dL_lengthOf_9 rfl) (ss_ret (se_iconst dL_lengthOf_15 rfl) rfl dL_lengthOf_16)
  refine ho_ofW (XX := xL_lengthOf) fin (by decide +kernel) (by decide) rfl ?_
  intro p l e R s m args below meth c H locs dC dI cA ad A Q ls rest q ce σ ec pc T v he hb hm ho hts hZ hn hret hlk hS htab hpc hX hat hT hl h7 h8 h9
  cases hpc
  have hh9 := ho_ls_has hl hT
  obtain ⟨rfl, hX⟩ := hX
  exact ho_hand (n := 1) (nx := 13) [] ⟨0, 9, 12, 21⟩ [] he hb ho hts hZ hn hret hlk hS htab (fun z hz => absurd hz List.not_mem_nil) (by decide) (by decide) wk_714 wk_715 h7 h8 h9 hat hX rfl (fun Q9 kk => lv_astore_n he hb dL_lengthOf_12 rfl hh9 (by rw [hm]; decide) rfl (fun ls' _ => kk ls')) dL_lengthOf_13 dL_lengthOf_14
def fL_startByFrames : ho_Z := (zS (zLs (eV 2) (eC 0) (eK mX6_startByFrames (aC (eV 0) (aC (eV 1) aN)))) (zR (eC 0)))
def xL_startByFrames (Q : ho_K) : ho_X := fun ec σ => (ec = 2 ∧ Q 1 σ)
def mL_startByFrames : ho_M := fun a σ Q _ => fL_startByFrames a σ (fun _ _ => False) Q (xL_startByFrames Q)
def hL_startByFrames : List (Nat × Nat × Nat × Nat) := [(0, 9, 12, 21)]
abbrev iL_startByFrames : ho_I := (RL, cL_startByFrames, 4, 8, 128, (some .int), (fun pc => pc = 4), (fun _ => True))
set_option maxRecDepth 20000 in
theorem kL_startByFrames : ho_MetW yL_startByFrames cL_startByFrames 4 hL_startByFrames 8 128 [11, 0, 4] mL_startByFrames := by
  have fin : ho_SS iL_startByFrames 1 [11, 0, 4] [11, 0, 4] 0 9999 fL_startByFrames := ss_seq (ss_go (tgt := 15) (ss_lst (se_aload_n rfl rfl dL_startByFrames_0) (se_iconst dL_startByFrames_1 rfl) (se_callV kX6_startByFrames (sa_cons (se_aload_n rfl rfl dL_startByFrames_2) (sa_cons (se_iload_n rfl rfl dL_startByFrames_3) sa_nil)) dL_startByFrames_4 wk_756 wk_757 wk_758 hcX6 wk_4 wk_759 ykX6_startByFrames (by decide) (by decide) (by decide) rfl) dL_startByFrames_7 dL_startByFrames_8) dL_startByFrames_9 rfl) (ss_ret (se_iconst dL_startByFrames_15 rfl) rfl dL_startByFrames_16)
  refine ho_ofW (XX := xL_startByFrames) fin (by decide +kernel) (by decide) rfl ?_
  intro p l e R s m args below meth c H locs dC dI cA ad A Q ls rest q ce σ ec pc T v he hb hm ho hts hZ hn hret hlk hS htab hpc hX hat hT hl h7 h8 h9
  cases hpc
  have hh9 := ho_ls_has hl hT
  obtain ⟨rfl, hX⟩ := hX
  exact ho_hand (n := 1) (nx := 13) [] ⟨0, 9, 12, 21⟩ [] he hb ho hts hZ hn hret hlk hS htab (fun z hz => absurd hz List.not_mem_nil) (by decide) (by decide) wk_714 wk_715 h7 h8 h9 hat hX rfl (fun Q9 kk => lv_astore_n he hb dL_startByFrames_12 rfl hh9 (by rw [hm]; decide) rfl (fun ls' _ => kk ls')) dL_startByFrames_13 dL_startByFrames_14
def fL_inOrder : ho_Z := (zS (zLs (eV 2) (eC 0) (eK mX6_inOrder (aC (eV 0) (aC (eV 1) aN)))) (zR (eC 0)))
def xL_inOrder (Q : ho_K) : ho_X := fun ec σ => (ec = 0 ∧ Q 1 σ)
def mL_inOrder : ho_M := fun a σ Q _ => fL_inOrder a σ (fun _ _ => False) Q (xL_inOrder Q)
def hL_inOrder : List (Nat × Nat × Nat × Nat) := [(0, 9, 12, 13)]
abbrev iL_inOrder : ho_I := (RL, cL_inOrder, 4, 7, 108, (some .int), (fun pc => pc = 4), (fun _ => True))
set_option maxRecDepth 20000 in
theorem kL_inOrder : ho_MetW yL_inOrder cL_inOrder 4 hL_inOrder 7 108 [11, 0, 4] mL_inOrder := by
  have fin : ho_SS iL_inOrder 1 [11, 0, 4] [11, 0, 4] 0 9999 fL_inOrder := ss_seq (ss_go (tgt := 15) (ss_lst (se_aload_n rfl rfl dL_inOrder_0) (se_iconst dL_inOrder_1 rfl) (se_callV kX6_inOrder (sa_cons (se_aload_n rfl rfl dL_inOrder_2) (sa_cons (se_iload_n rfl rfl dL_inOrder_3) sa_nil)) dL_inOrder_4 wk_760 wk_761 wk_762 hcX6 wk_4 wk_763 ykX6_inOrder (by decide) (by decide) (by decide) rfl) dL_inOrder_7 dL_inOrder_8) dL_inOrder_9 rfl) (ss_ret (se_iconst dL_inOrder_15 rfl) rfl dL_inOrder_16)
  refine ho_ofW (XX := xL_inOrder) fin (by decide +kernel) (by decide) rfl ?_
  intro p l e R s m args below meth c H locs dC dI cA ad A Q ls rest q ce σ ec pc T v he hb hm ho hts hZ hn hret hlk hS htab hpc hX hat hT hl h7 h8 h9
  cases hpc
  have hh9 := ho_ls_has hl hT
  obtain ⟨rfl, hX⟩ := hX
  exact ho_hand (n := 1) (nx := 13) [] ⟨0, 9, 12, 13⟩ [] he hb ho hts hZ hn hret hlk hS htab (fun z hz => absurd hz List.not_mem_nil) (by decide) (by decide) wk_706 wk_707 h7 h8 h9 hat hX rfl (fun Q9 kk => lv_astore_n he hb dL_inOrder_12 rfl hh9 (by rw [hm]; decide) rfl (fun ls' _ => kk ls')) dL_inOrder_13 dL_inOrder_14
def fL_type : ho_Z := (zS (zLs (eV 4) (eC 0) (eK mX6_type (aC (eV 0) (aC (eV 1) (aC (eV 2) (aC (eV 3) aN)))))) (zR (eC 0)))
def xL_type (Q : ho_K) : ho_X := fun ec σ => (ec = 2 ∧ Q 1 σ) ∨ (ec = 0 ∧ Q 2 σ) ∨ (ec = 1 ∧ Q 3 σ)
def mL_type : ho_M := fun a σ Q _ => fL_type a σ (fun _ _ => False) Q (xL_type Q)
def hL_type : List (Nat × Nat × Nat × Nat) := [(0, 12, 15, 21), (0, 12, 19, 13), (0, 12, 23, 15)]
abbrev iL_type : ho_I := (RL, cL_type, 6, 9, 149, (some .int), (fun pc => pc = 7), (fun _ => True))
set_option maxRecDepth 20000 in
theorem kL_type : ho_MetW yL_type cL_type 6 hL_type 9 149 [11, 0, 0, 0, 4] mL_type := by
  have fin : ho_SS iL_type 1 [11, 0, 0, 0, 4] [11, 0, 0, 0, 4] 0 9999 fL_type := ss_seq (ss_go (tgt := 27) (ss_lst (se_aload rfl dL_type_0) (se_iconst dL_type_2 rfl) (se_callV kX6_type (sa_cons (se_aload_n rfl rfl dL_type_3) (sa_cons (se_iload_n rfl rfl dL_type_4) (sa_cons (se_iload_n rfl rfl dL_type_5) (sa_cons (se_iload_n rfl rfl dL_type_6) sa_nil)))) dL_type_7 wk_764 wk_765 wk_766 hcX6 wk_4 wk_767 ykX6_type (by decide) (by decide) (by decide) rfl) dL_type_10 dL_type_11) dL_type_12 rfl) (ss_ret (se_iconst dL_type_27 rfl) rfl dL_type_28)
  refine ho_ofW (XX := xL_type) fin (by decide +kernel) (by decide) rfl ?_
  intro p l e R s m args below meth c H locs dC dI cA ad A Q ls rest q ce σ ec pc T v he hb hm ho hts hZ hn hret hlk hS htab hpc hX hat hT hl h7 h8 h9
  cases hpc
  have hh9 := ho_ls_has hl hT
  rcases hX with ⟨rfl, hX⟩ | ⟨rfl, hX⟩ | ⟨rfl, hX⟩
  · exact ho_hand (n := 1) (nx := 17) [] ⟨0, 12, 15, 21⟩ [⟨0, 12, 19, 13⟩, ⟨0, 12, 23, 15⟩] he hb ho hts hZ hn hret hlk hS htab (fun z hz => absurd hz List.not_mem_nil) (by decide) (by decide) wk_714 wk_715 h7 h8 h9 hat hX rfl (fun Q9 kk => lv_astore he hb dL_type_15 hh9 (by rw [hm]; decide) rfl (fun ls' _ => kk ls')) dL_type_17 dL_type_18
  · exact ho_hand (n := 2) (nx := 21) [⟨0, 12, 15, 21⟩] ⟨0, 12, 19, 13⟩ [⟨0, 12, 23, 15⟩] he hb ho hts hZ hn hret hlk hS htab (fun z hz => by rcases List.mem_singleton.mp hz with rfl; exact Or.inr ⟨by decide, 2, wk_714, by decide⟩) (by decide) (by decide) wk_706 wk_707 h7 h8 h9 hat hX rfl (fun Q9 kk => lv_astore he hb dL_type_19 hh9 (by rw [hm]; decide) rfl (fun ls' _ => kk ls')) dL_type_21 dL_type_22
  · exact ho_hand (n := 3) (nx := 25) [⟨0, 12, 15, 21⟩, ⟨0, 12, 19, 13⟩] ⟨0, 12, 23, 15⟩ [] he hb ho hts hZ hn hret hlk hS htab (fun z hz => by rcases List.mem_cons.mp hz with rfl | hz; exact Or.inr ⟨by decide, 2, wk_714, by decide⟩; rcases List.mem_singleton.mp hz with rfl; exact Or.inr ⟨by decide, 0, wk_706, by decide⟩) (by decide) (by decide) wk_708 wk_709 h7 h8 h9 hat hX rfl (fun Q9 kk => lv_astore he hb dL_type_23 hh9 (by rw [hm]; decide) rfl (fun ls' _ => kk ls')) dL_type_25 dL_type_26
def fL_erase : ho_Z := (zS (zLs (eV 3) (eC 0) (eK mX6_erase (aC (eV 0) (aC (eV 1) (aC (eV 2) aN))))) (zR (eC 0)))
def xL_erase (Q : ho_K) : ho_X := fun ec σ => (ec = 2 ∧ Q 1 σ) ∨ (ec = 1 ∧ Q 2 σ)
def mL_erase : ho_M := fun a σ Q _ => fL_erase a σ (fun _ _ => False) Q (xL_erase Q)
def hL_erase : List (Nat × Nat × Nat × Nat) := [(0, 10, 13, 21), (0, 10, 17, 15)]
abbrev iL_erase : ho_I := (RL, cL_erase, 5, 9, 149, (some .int), (fun pc => pc = 5), (fun _ => True))
set_option maxRecDepth 20000 in
theorem kL_erase : ho_MetW yL_erase cL_erase 5 hL_erase 9 149 [11, 0, 0, 4] mL_erase := by
  have fin : ho_SS iL_erase 1 [11, 0, 0, 4] [11, 0, 0, 4] 0 9999 fL_erase := ss_seq (ss_go (tgt := 21) (ss_lst (se_aload_n rfl rfl dL_erase_0) (se_iconst dL_erase_1 rfl) (se_callV kX6_erase (sa_cons (se_aload_n rfl rfl dL_erase_2) (sa_cons (se_iload_n rfl rfl dL_erase_3) (sa_cons (se_iload_n rfl rfl dL_erase_4) sa_nil))) dL_erase_5 wk_768 wk_769 wk_770 hcX6 wk_4 wk_771 ykX6_erase (by decide) (by decide) (by decide) rfl) dL_erase_8 dL_erase_9) dL_erase_10 rfl) (ss_ret (se_iconst dL_erase_21 rfl) rfl dL_erase_22)
  refine ho_ofW (XX := xL_erase) fin (by decide +kernel) (by decide) rfl ?_
  intro p l e R s m args below meth c H locs dC dI cA ad A Q ls rest q ce σ ec pc T v he hb hm ho hts hZ hn hret hlk hS htab hpc hX hat hT hl h7 h8 h9
  cases hpc
  have hh9 := ho_ls_has hl hT
  rcases hX with ⟨rfl, hX⟩ | ⟨rfl, hX⟩
  · exact ho_hand (n := 1) (nx := 15) [] ⟨0, 10, 13, 21⟩ [⟨0, 10, 17, 15⟩] he hb ho hts hZ hn hret hlk hS htab (fun z hz => absurd hz List.not_mem_nil) (by decide) (by decide) wk_714 wk_715 h7 h8 h9 hat hX rfl (fun Q9 kk => lv_astore he hb dL_erase_13 hh9 (by rw [hm]; decide) rfl (fun ls' _ => kk ls')) dL_erase_15 dL_erase_16
  · exact ho_hand (n := 2) (nx := 19) [⟨0, 10, 13, 21⟩] ⟨0, 10, 17, 15⟩ [] he hb ho hts hZ hn hret hlk hS htab (fun z hz => by rcases List.mem_singleton.mp hz with rfl; exact Or.inr ⟨by decide, 2, wk_714, by decide⟩) (by decide) (by decide) wk_708 wk_709 h7 h8 h9 hat hX rfl (fun Q9 kk => lv_astore he hb dL_erase_17 hh9 (by rw [hm]; decide) rfl (fun ls' _ => kk ls')) dL_erase_19 dL_erase_20
def fL_signs : ho_Z := (zS (zLs (eV 3) (eC 0) (eK mX6_signs (aC (eV 0) (aC (eV 1) (aC (eV 2) aN))))) (zR (eC 0)))
def xL_signs (Q : ho_K) : ho_X := fun ec σ => (ec = 2 ∧ Q 1 σ)
def mL_signs : ho_M := fun a σ Q _ => fL_signs a σ (fun _ _ => False) Q (xL_signs Q)
def hL_signs : List (Nat × Nat × Nat × Nat) := [(0, 10, 13, 21)]
abbrev iL_signs : ho_I := (RL, cL_signs, 5, 9, 147, (some .int), (fun pc => pc = 5), (fun _ => True))
set_option maxRecDepth 20000 in
theorem kL_signs : ho_MetW yL_signs cL_signs 5 hL_signs 9 147 [11, 0, 0, 4] mL_signs := by
  have fin : ho_SS iL_signs 1 [11, 0, 0, 4] [11, 0, 0, 4] 0 9999 fL_signs := ss_seq (ss_go (tgt := 17) (ss_lst (se_aload_n rfl rfl dL_signs_0) (se_iconst dL_signs_1 rfl) (se_callV kX6_signs (sa_cons (se_aload_n rfl rfl dL_signs_2) (sa_cons (se_iload_n rfl rfl dL_signs_3) (sa_cons (se_iload_n rfl rfl dL_signs_4) sa_nil))) dL_signs_5 wk_772 wk_773 wk_774 hcX6 wk_4 wk_775 ykX6_signs (by decide) (by decide) (by decide) rfl) dL_signs_8 dL_signs_9) dL_signs_10 rfl) (ss_ret (se_iconst dL_signs_17 rfl) rfl dL_signs_18)
  refine ho_ofW (XX := xL_signs) fin (by decide +kernel) (by decide) rfl ?_
  intro p l e R s m args below meth c H locs dC dI cA ad A Q ls rest q ce σ ec pc T v he hb hm ho hts hZ hn hret hlk hS htab hpc hX hat hT hl h7 h8 h9
  cases hpc
  have hh9 := ho_ls_has hl hT
  obtain ⟨rfl, hX⟩ := hX
  exact ho_hand (n := 1) (nx := 15) [] ⟨0, 10, 13, 21⟩ [] he hb ho hts hZ hn hret hlk hS htab (fun z hz => absurd hz List.not_mem_nil) (by decide) (by decide) wk_714 wk_715 h7 h8 h9 hat hX rfl (fun Q9 kk => lv_astore he hb dL_signs_13 hh9 (by rw [hm]; decide) rfl (fun ls' _ => kk ls')) dL_signs_15 dL_signs_16
def fL_signAt : ho_Z := (zS (zLs (eV 4) (eC 0) (eK mX6_signAt (aC (eV 0) (aC (eV 1) (aC (eV 2) (aC (eV 3) aN)))))) (zR (eC 0)))
def xL_signAt (Q : ho_K) : ho_X := fun ec σ => (ec = 2 ∧ Q 1 σ)
def mL_signAt : ho_M := fun a σ Q _ => fL_signAt a σ (fun _ _ => False) Q (xL_signAt Q)
def hL_signAt : List (Nat × Nat × Nat × Nat) := [(0, 12, 15, 21)]
abbrev iL_signAt : ho_I := (RL, cL_signAt, 6, 9, 149, (some .int), (fun pc => pc = 7), (fun _ => True))
set_option maxRecDepth 20000 in
theorem kL_signAt : ho_MetW yL_signAt cL_signAt 6 hL_signAt 9 149 [11, 0, 0, 0, 4] mL_signAt := by
  have fin : ho_SS iL_signAt 1 [11, 0, 0, 0, 4] [11, 0, 0, 0, 4] 0 9999 fL_signAt := ss_seq (ss_go (tgt := 19) (ss_lst (se_aload rfl dL_signAt_0) (se_iconst dL_signAt_2 rfl) (se_callV kX6_signAt (sa_cons (se_aload_n rfl rfl dL_signAt_3) (sa_cons (se_iload_n rfl rfl dL_signAt_4) (sa_cons (se_iload_n rfl rfl dL_signAt_5) (sa_cons (se_iload_n rfl rfl dL_signAt_6) sa_nil)))) dL_signAt_7 wk_776 wk_777 wk_778 hcX6 wk_4 wk_779 ykX6_signAt (by decide) (by decide) (by decide) rfl) dL_signAt_10 dL_signAt_11) dL_signAt_12 rfl) (ss_ret (se_iconst dL_signAt_19 rfl) rfl dL_signAt_20)
  refine ho_ofW (XX := xL_signAt) fin (by decide +kernel) (by decide) rfl ?_
  intro p l e R s m args below meth c H locs dC dI cA ad A Q ls rest q ce σ ec pc T v he hb hm ho hts hZ hn hret hlk hS htab hpc hX hat hT hl h7 h8 h9
  cases hpc
  have hh9 := ho_ls_has hl hT
  obtain ⟨rfl, hX⟩ := hX
  exact ho_hand (n := 1) (nx := 17) [] ⟨0, 12, 15, 21⟩ [] he hb ho hts hZ hn hret hlk hS htab (fun z hz => absurd hz List.not_mem_nil) (by decide) (by decide) wk_714 wk_715 h7 h8 h9 hat hX rfl (fun Q9 kk => lv_astore he hb dL_signAt_15 hh9 (by rw [hm]; decide) rfl (fun ls' _ => kk ls')) dL_signAt_17 dL_signAt_18
def fL_width : ho_Z := (zS (zLs (eV 3) (eC 0) (eK mX6_width (aC (eV 0) (aC (eV 1) (aC (eV 2) aN))))) (zR (eC 0)))
def xL_width (Q : ho_K) : ho_X := fun ec σ => (ec = 2 ∧ Q 1 σ)
def mL_width : ho_M := fun a σ Q _ => fL_width a σ (fun _ _ => False) Q (xL_width Q)
def hL_width : List (Nat × Nat × Nat × Nat) := [(0, 10, 13, 21)]
abbrev iL_width : ho_I := (RL, cL_width, 5, 9, 147, (some .int), (fun pc => pc = 5), (fun _ => True))
set_option maxRecDepth 20000 in
theorem kL_width : ho_MetW yL_width cL_width 5 hL_width 9 147 [11, 0, 0, 4] mL_width := by
  have fin : ho_SS iL_width 1 [11, 0, 0, 4] [11, 0, 0, 4] 0 9999 fL_width := ss_seq (ss_go (tgt := 17) (ss_lst (se_aload_n rfl rfl dL_width_0) (se_iconst dL_width_1 rfl) (se_callV kX6_width (sa_cons (se_aload_n rfl rfl dL_width_2) (sa_cons (se_iload_n rfl rfl dL_width_3) (sa_cons (se_iload_n rfl rfl dL_width_4) sa_nil))) dL_width_5 wk_780 wk_781 wk_782 hcX6 wk_4 wk_783 ykX6_width (by decide) (by decide) (by decide) rfl) dL_width_8 dL_width_9) dL_width_10 rfl) (ss_ret (se_iconst dL_width_17 rfl) rfl dL_width_18)
  refine ho_ofW (XX := xL_width) fin (by decide +kernel) (by decide) rfl ?_
  intro p l e R s m args below meth c H locs dC dI cA ad A Q ls rest q ce σ ec pc T v he hb hm ho hts hZ hn hret hlk hS htab hpc hX hat hT hl h7 h8 h9
  cases hpc
  have hh9 := ho_ls_has hl hT
  obtain ⟨rfl, hX⟩ := hX
  exact ho_hand (n := 1) (nx := 15) [] ⟨0, 10, 13, 21⟩ [] he hb ho hts hZ hn hret hlk hS htab (fun z hz => absurd hz List.not_mem_nil) (by decide) (by decide) wk_714 wk_715 h7 h8 h9 hat hX rfl (fun Q9 kk => lv_astore he hb dL_width_13 hh9 (by rw [hm]; decide) rfl (fun ls' _ => kk ls')) dL_width_15 dL_width_16
def fL_rows : ho_Z := (zS (zLs (eV 3) (eC 0) (eK mX6_rows (aC (eV 0) (aC (eV 1) (aC (eV 2) aN))))) (zR (eC 0)))
def xL_rows (Q : ho_K) : ho_X := fun ec σ => (ec = 2 ∧ Q 1 σ)
def mL_rows : ho_M := fun a σ Q _ => fL_rows a σ (fun _ _ => False) Q (xL_rows Q)
def hL_rows : List (Nat × Nat × Nat × Nat) := [(0, 10, 13, 21)]
abbrev iL_rows : ho_I := (RL, cL_rows, 5, 9, 148, (some .int), (fun pc => pc = 5), (fun _ => True))
set_option maxRecDepth 20000 in
theorem kL_rows : ho_MetW yL_rows cL_rows 5 hL_rows 9 148 [11, 0, 0, 4] mL_rows := by
  have fin : ho_SS iL_rows 1 [11, 0, 0, 4] [11, 0, 0, 4] 0 9999 fL_rows := ss_seq (ss_go (tgt := 17) (ss_lst (se_aload_n rfl rfl dL_rows_0) (se_iconst dL_rows_1 rfl) (se_callV kX6_rows (sa_cons (se_aload_n rfl rfl dL_rows_2) (sa_cons (se_iload_n rfl rfl dL_rows_3) (sa_cons (se_iload_n rfl rfl dL_rows_4) sa_nil))) dL_rows_5 wk_784 wk_785 wk_786 hcX6 wk_4 wk_787 ykX6_rows (by decide) (by decide) (by decide) rfl) dL_rows_8 dL_rows_9) dL_rows_10 rfl) (ss_ret (se_iconst dL_rows_17 rfl) rfl dL_rows_18)
  refine ho_ofW (XX := xL_rows) fin (by decide +kernel) (by decide) rfl ?_
  intro p l e R s m args below meth c H locs dC dI cA ad A Q ls rest q ce σ ec pc T v he hb hm ho hts hZ hn hret hlk hS htab hpc hX hat hT hl h7 h8 h9
  cases hpc
  have hh9 := ho_ls_has hl hT
  obtain ⟨rfl, hX⟩ := hX
  exact ho_hand (n := 1) (nx := 15) [] ⟨0, 10, 13, 21⟩ [] he hb ho hts hZ hn hret hlk hS htab (fun z hz => absurd hz List.not_mem_nil) (by decide) (by decide) wk_714 wk_715 h7 h8 h9 hat hX rfl (fun Q9 kk => lv_astore he hb dL_rows_13 hh9 (by rw [hm]; decide) rfl (fun ls' _ => kk ls')) dL_rows_15 dL_rows_16
def fL_row : ho_Z := (zS (zLs (eV 4) (eC 0) (eK mX6_row (aC (eV 0) (aC (eV 1) (aC (eV 2) (aC (eV 3) aN)))))) (zR (eC 0)))
def xL_row (Q : ho_K) : ho_X := fun ec σ => (ec = 2 ∧ Q 1 σ)
def mL_row : ho_M := fun a σ Q _ => fL_row a σ (fun _ _ => False) Q (xL_row Q)
def hL_row : List (Nat × Nat × Nat × Nat) := [(0, 12, 15, 21)]
abbrev iL_row : ho_I := (RL, cL_row, 6, 9, 149, (some .int), (fun pc => pc = 7), (fun _ => True))
set_option maxRecDepth 20000 in
theorem kL_row : ho_MetW yL_row cL_row 6 hL_row 9 149 [11, 0, 0, 0, 4] mL_row := by
  have fin : ho_SS iL_row 1 [11, 0, 0, 0, 4] [11, 0, 0, 0, 4] 0 9999 fL_row := ss_seq (ss_go (tgt := 19) (ss_lst (se_aload rfl dL_row_0) (se_iconst dL_row_2 rfl) (se_callV kX6_row (sa_cons (se_aload_n rfl rfl dL_row_3) (sa_cons (se_iload_n rfl rfl dL_row_4) (sa_cons (se_iload_n rfl rfl dL_row_5) (sa_cons (se_iload_n rfl rfl dL_row_6) sa_nil)))) dL_row_7 wk_788 wk_789 wk_790 hcX6 wk_4 wk_791 ykX6_row (by decide) (by decide) (by decide) rfl) dL_row_10 dL_row_11) dL_row_12 rfl) (ss_ret (se_iconst dL_row_19 rfl) rfl dL_row_20)
  refine ho_ofW (XX := xL_row) fin (by decide +kernel) (by decide) rfl ?_
  intro p l e R s m args below meth c H locs dC dI cA ad A Q ls rest q ce σ ec pc T v he hb hm ho hts hZ hn hret hlk hS htab hpc hX hat hT hl h7 h8 h9
  cases hpc
  have hh9 := ho_ls_has hl hT
  obtain ⟨rfl, hX⟩ := hX
  exact ho_hand (n := 1) (nx := 17) [] ⟨0, 12, 15, 21⟩ [] he hb ho hts hZ hn hret hlk hS htab (fun z hz => absurd hz List.not_mem_nil) (by decide) (by decide) wk_714 wk_715 h7 h8 h9 hat hX rfl (fun Q9 kk => lv_astore he hb dL_row_15 hh9 (by rw [hm]; decide) rfl (fun ls' _ => kk ls')) dL_row_17 dL_row_18
def fL_setLimits : ho_Z := (zS (zLs (eV 3) (eC 0) (eK mX6_setLimits (aC (eV 0) (aC (eV 1) (aC (eV 2) aN))))) (zR (eC 0)))
def xL_setLimits (Q : ho_K) : ho_X := fun ec σ => (ec = 0 ∧ Q 1 σ)
def mL_setLimits : ho_M := fun a σ Q _ => fL_setLimits a σ (fun _ _ => False) Q (xL_setLimits Q)
def hL_setLimits : List (Nat × Nat × Nat × Nat) := [(0, 10, 13, 13)]
abbrev iL_setLimits : ho_I := (RL, cL_setLimits, 5, 7, 105, (some .int), (fun pc => pc = 5), (fun _ => True))
set_option maxRecDepth 20000 in
theorem kL_setLimits : ho_MetW yL_setLimits cL_setLimits 5 hL_setLimits 7 105 [11, 0, 0, 4] mL_setLimits := by
  have fin : ho_SS iL_setLimits 1 [11, 0, 0, 4] [11, 0, 0, 4] 0 9999 fL_setLimits := ss_seq (ss_go (tgt := 17) (ss_lst (se_aload_n rfl rfl dL_setLimits_0) (se_iconst dL_setLimits_1 rfl) (se_callV kX6_setLimits (sa_cons (se_aload_n rfl rfl dL_setLimits_2) (sa_cons (se_iload_n rfl rfl dL_setLimits_3) (sa_cons (se_iload_n rfl rfl dL_setLimits_4) sa_nil))) dL_setLimits_5 wk_792 wk_793 wk_794 hcX6 wk_4 wk_795 ykX6_setLimits (by decide) (by decide) (by decide) rfl) dL_setLimits_8 dL_setLimits_9) dL_setLimits_10 rfl) (ss_ret (se_iconst dL_setLimits_17 rfl) rfl dL_setLimits_18)
  refine ho_ofW (XX := xL_setLimits) fin (by decide +kernel) (by decide) rfl ?_
  intro p l e R s m args below meth c H locs dC dI cA ad A Q ls rest q ce σ ec pc T v he hb hm ho hts hZ hn hret hlk hS htab hpc hX hat hT hl h7 h8 h9
  cases hpc
  have hh9 := ho_ls_has hl hT
  obtain ⟨rfl, hX⟩ := hX
  exact ho_hand (n := 1) (nx := 15) [] ⟨0, 10, 13, 13⟩ [] he hb ho hts hZ hn hret hlk hS htab (fun z hz => absurd hz List.not_mem_nil) (by decide) (by decide) wk_706 wk_707 h7 h8 h9 hat hX rfl (fun Q9 kk => lv_astore he hb dL_setLimits_13 hh9 (by rw [hm]; decide) rfl (fun ls' _ => kk ls')) dL_setLimits_15 dL_setLimits_16
def fL_confirm : ho_Z := (zS (zLs (eV 3) (eC 0) (eK mX6_confirm (aC (eV 0) (aC (eV 1) (aC (eV 2) aN))))) (zR (eC 0)))
def xL_confirm (Q : ho_K) : ho_X := fun ec σ => (ec = 2 ∧ Q 1 σ) ∨ (ec = 1 ∧ Q 2 σ)
def mL_confirm : ho_M := fun a σ Q _ => fL_confirm a σ (fun _ _ => False) Q (xL_confirm Q)
def hL_confirm : List (Nat × Nat × Nat × Nat) := [(0, 10, 13, 21), (0, 10, 17, 15)]
abbrev iL_confirm : ho_I := (RL, cL_confirm, 5, 9, 150, (some .int), (fun pc => pc = 5), (fun _ => True))
set_option maxRecDepth 20000 in
theorem kL_confirm : ho_MetW yL_confirm cL_confirm 5 hL_confirm 9 150 [11, 0, 0, 4] mL_confirm := by
  have fin : ho_SS iL_confirm 1 [11, 0, 0, 4] [11, 0, 0, 4] 0 9999 fL_confirm := ss_seq (ss_go (tgt := 21) (ss_lst (se_aload_n rfl rfl dL_confirm_0) (se_iconst dL_confirm_1 rfl) (se_callV kX6_confirm (sa_cons (se_aload_n rfl rfl dL_confirm_2) (sa_cons (se_iload_n rfl rfl dL_confirm_3) (sa_cons (se_iload_n rfl rfl dL_confirm_4) sa_nil))) dL_confirm_5 wk_796 wk_797 wk_798 hcX6 wk_4 wk_799 ykX6_confirm (by decide) (by decide) (by decide) rfl) dL_confirm_8 dL_confirm_9) dL_confirm_10 rfl) (ss_ret (se_iconst dL_confirm_21 rfl) rfl dL_confirm_22)
  refine ho_ofW (XX := xL_confirm) fin (by decide +kernel) (by decide) rfl ?_
  intro p l e R s m args below meth c H locs dC dI cA ad A Q ls rest q ce σ ec pc T v he hb hm ho hts hZ hn hret hlk hS htab hpc hX hat hT hl h7 h8 h9
  cases hpc
  have hh9 := ho_ls_has hl hT
  rcases hX with ⟨rfl, hX⟩ | ⟨rfl, hX⟩
  · exact ho_hand (n := 1) (nx := 15) [] ⟨0, 10, 13, 21⟩ [⟨0, 10, 17, 15⟩] he hb ho hts hZ hn hret hlk hS htab (fun z hz => absurd hz List.not_mem_nil) (by decide) (by decide) wk_714 wk_715 h7 h8 h9 hat hX rfl (fun Q9 kk => lv_astore he hb dL_confirm_13 hh9 (by rw [hm]; decide) rfl (fun ls' _ => kk ls')) dL_confirm_15 dL_confirm_16
  · exact ho_hand (n := 2) (nx := 19) [⟨0, 10, 13, 21⟩] ⟨0, 10, 17, 15⟩ [] he hb ho hts hZ hn hret hlk hS htab (fun z hz => by rcases List.mem_singleton.mp hz with rfl; exact Or.inr ⟨by decide, 2, wk_714, by decide⟩) (by decide) (by decide) wk_708 wk_709 h7 h8 h9 hat hX rfl (fun Q9 kk => lv_astore he hb dL_confirm_17 hh9 (by rw [hm]; decide) rfl (fun ls' _ => kk ls')) dL_confirm_19 dL_confirm_20
def fL_fill : ho_Z := (zS (zLs (eV 2) (eC 0) (eK mX6_fill (aC (eV 0) (aC (eV 1) aN)))) (zR (eC 0)))
def xL_fill (Q : ho_K) : ho_X := fun ec σ => (ec = 2 ∧ Q 1 σ)
def mL_fill : ho_M := fun a σ Q _ => fL_fill a σ (fun _ _ => False) Q (xL_fill Q)
def hL_fill : List (Nat × Nat × Nat × Nat) := [(0, 9, 12, 21)]
abbrev iL_fill : ho_I := (RL, cL_fill, 4, 8, 138, (some .int), (fun pc => pc = 4), (fun _ => True))
set_option maxRecDepth 20000 in
theorem kL_fill : ho_MetW yL_fill cL_fill 4 hL_fill 8 138 [11, 0, 4] mL_fill := by
  have fin : ho_SS iL_fill 1 [11, 0, 4] [11, 0, 4] 0 9999 fL_fill := ss_seq (ss_go (tgt := 15) (ss_lst (se_aload_n rfl rfl dL_fill_0) (se_iconst dL_fill_1 rfl) (se_callV kX6_fill (sa_cons (se_aload_n rfl rfl dL_fill_2) (sa_cons (se_iload_n rfl rfl dL_fill_3) sa_nil)) dL_fill_4 wk_800 wk_801 wk_802 hcX6 wk_4 wk_803 ykX6_fill (by decide) (by decide) (by decide) rfl) dL_fill_7 dL_fill_8) dL_fill_9 rfl) (ss_ret (se_iconst dL_fill_15 rfl) rfl dL_fill_16)
  refine ho_ofW (XX := xL_fill) fin (by decide +kernel) (by decide) rfl ?_
  intro p l e R s m args below meth c H locs dC dI cA ad A Q ls rest q ce σ ec pc T v he hb hm ho hts hZ hn hret hlk hS htab hpc hX hat hT hl h7 h8 h9
  cases hpc
  have hh9 := ho_ls_has hl hT
  obtain ⟨rfl, hX⟩ := hX
  exact ho_hand (n := 1) (nx := 13) [] ⟨0, 9, 12, 21⟩ [] he hb ho hts hZ hn hret hlk hS htab (fun z hz => absurd hz List.not_mem_nil) (by decide) (by decide) wk_714 wk_715 h7 h8 h9 hat hX rfl (fun Q9 kk => lv_astore_n he hb dL_fill_12 rfl hh9 (by rw [hm]; decide) rfl (fun ls' _ => kk ls')) dL_fill_13 dL_fill_14
def fL_isStale : ho_Z := (zS (zLz (eV 3) (eC 0) (eK mX6_isStale (aC (eV 0) (aC (eV 1) (aC (eV 2) aN))))) (zR (eC 0)))
def xL_isStale (Q : ho_K) : ho_X := fun ec σ => (ec = 2 ∧ Q 1 σ)
def mL_isStale : ho_M := fun a σ Q _ => fL_isStale a σ (fun _ _ => False) Q (xL_isStale Q)
def hL_isStale : List (Nat × Nat × Nat × Nat) := [(0, 17, 20, 21)]
abbrev iL_isStale : ho_I := (RL, cL_isStale, 5, 9, 147, (some .int), (fun pc => pc = 5), (fun _ => True))
set_option maxRecDepth 20000 in
theorem kL_isStale : ho_MetW yL_isStale cL_isStale 5 hL_isStale 9 147 [11, 0, 0, 4] mL_isStale := by
  have fin : ho_SS iL_isStale 1 [11, 0, 0, 4] [11, 0, 0, 4] 0 9999 fL_isStale := ss_seq (ss_go (tgt := 24) (ss_lsz (t1 := 15) (t2 := 16) (se_aload_n rfl rfl dL_isStale_0) (se_iconst dL_isStale_1 rfl) (se_callV kX6_isStale (sa_cons (se_aload_n rfl rfl dL_isStale_2) (sa_cons (se_iload_n rfl rfl dL_isStale_3) (sa_cons (se_iload_n rfl rfl dL_isStale_4) sa_nil))) dL_isStale_5 wk_804 wk_805 wk_806 hcX6 wk_4 wk_807 ykX6_isStale (by decide) (by decide) (by decide) rfl) dL_isStale_8 rfl dL_isStale_11 dL_isStale_12 rfl dL_isStale_15 rfl dL_isStale_16) dL_isStale_17 rfl) (ss_ret (se_iconst dL_isStale_24 rfl) rfl dL_isStale_25)
  refine ho_ofW (XX := xL_isStale) fin (by decide +kernel) (by decide) rfl ?_
  intro p l e R s m args below meth c H locs dC dI cA ad A Q ls rest q ce σ ec pc T v he hb hm ho hts hZ hn hret hlk hS htab hpc hX hat hT hl h7 h8 h9
  cases hpc
  have hh9 := ho_ls_has hl hT
  obtain ⟨rfl, hX⟩ := hX
  exact ho_hand (n := 1) (nx := 22) [] ⟨0, 17, 20, 21⟩ [] he hb ho hts hZ hn hret hlk hS htab (fun z hz => absurd hz List.not_mem_nil) (by decide) (by decide) wk_714 wk_715 h7 h8 h9 hat hX rfl (fun Q9 kk => lv_astore he hb dL_isStale_20 hh9 (by rw [hm]; decide) rfl (fun ls' _ => kk ls')) dL_isStale_22 dL_isStale_23
def fL_memory : ho_Z := (zS (zLs (eV 2) (eC 0) (eK mX6_memory (aC (eV 0) (aC (eV 1) aN)))) (zR (eC 0)))
def xL_memory (Q : ho_K) : ho_X := fun ec σ => (ec = 2 ∧ Q 1 σ)
def mL_memory : ho_M := fun a σ Q _ => fL_memory a σ (fun _ _ => False) Q (xL_memory Q)
def hL_memory : List (Nat × Nat × Nat × Nat) := [(0, 9, 12, 21)]
abbrev iL_memory : ho_I := (RL, cL_memory, 4, 8, 123, (some .int), (fun pc => pc = 4), (fun _ => True))
set_option maxRecDepth 20000 in
theorem kL_memory : ho_MetW yL_memory cL_memory 4 hL_memory 8 123 [11, 0, 4] mL_memory := by
  have fin : ho_SS iL_memory 1 [11, 0, 4] [11, 0, 4] 0 9999 fL_memory := ss_seq (ss_go (tgt := 15) (ss_lst (se_aload_n rfl rfl dL_memory_0) (se_iconst dL_memory_1 rfl) (se_callV kX6_memory (sa_cons (se_aload_n rfl rfl dL_memory_2) (sa_cons (se_iload_n rfl rfl dL_memory_3) sa_nil)) dL_memory_4 wk_808 wk_809 wk_810 hcX6 wk_4 wk_811 ykX6_memory (by decide) (by decide) (by decide) rfl) dL_memory_7 dL_memory_8) dL_memory_9 rfl) (ss_ret (se_iconst dL_memory_15 rfl) rfl dL_memory_16)
  refine ho_ofW (XX := xL_memory) fin (by decide +kernel) (by decide) rfl ?_
  intro p l e R s m args below meth c H locs dC dI cA ad A Q ls rest q ce σ ec pc T v he hb hm ho hts hZ hn hret hlk hS htab hpc hX hat hT hl h7 h8 h9
  cases hpc
  have hh9 := ho_ls_has hl hT
  obtain ⟨rfl, hX⟩ := hX
  exact ho_hand (n := 1) (nx := 13) [] ⟨0, 9, 12, 21⟩ [] he hb ho hts hZ hn hret hlk hS htab (fun z hz => absurd hz List.not_mem_nil) (by decide) (by decide) wk_714 wk_715 h7 h8 h9 hat hX rfl (fun Q9 kk => lv_astore_n he hb dL_memory_12 rfl hh9 (by rw [hm]; decide) rfl (fun ls' _ => kk ls')) dL_memory_13 dL_memory_14
def fL_broken : ho_Z := (zS (zLs (eV 3) (eC 0) (eK mX6_broken (aC (eV 0) (aC (eV 1) (aC (eV 2) aN))))) (zR (eC 0)))
def xL_broken (Q : ho_K) : ho_X := fun ec σ => (ec = 2 ∧ Q 1 σ)
def mL_broken : ho_M := fun a σ Q _ => fL_broken a σ (fun _ _ => False) Q (xL_broken Q)
def hL_broken : List (Nat × Nat × Nat × Nat) := [(0, 10, 13, 21)]
abbrev iL_broken : ho_I := (RL, cL_broken, 5, 9, 173, (some .int), (fun pc => pc = 5), (fun _ => True))
set_option maxRecDepth 20000 in
theorem kL_broken : ho_MetW yL_broken cL_broken 5 hL_broken 9 173 [11, 0, 0, 4] mL_broken := by
  have fin : ho_SS iL_broken 1 [11, 0, 0, 4] [11, 0, 0, 4] 0 9999 fL_broken := ss_seq (ss_go (tgt := 17) (ss_lst (se_aload_n rfl rfl dL_broken_0) (se_iconst dL_broken_1 rfl) (se_callV kX6_broken (sa_cons (se_aload_n rfl rfl dL_broken_2) (sa_cons (se_iload_n rfl rfl dL_broken_3) (sa_cons (se_iload_n rfl rfl dL_broken_4) sa_nil))) dL_broken_5 wk_812 wk_813 wk_814 hcX6 wk_4 wk_815 ykX6_broken (by decide) (by decide) (by decide) rfl) dL_broken_8 dL_broken_9) dL_broken_10 rfl) (ss_ret (se_iconst dL_broken_17 rfl) rfl dL_broken_18)
  refine ho_ofW (XX := xL_broken) fin (by decide +kernel) (by decide) rfl ?_
  intro p l e R s m args below meth c H locs dC dI cA ad A Q ls rest q ce σ ec pc T v he hb hm ho hts hZ hn hret hlk hS htab hpc hX hat hT hl h7 h8 h9
  cases hpc
  have hh9 := ho_ls_has hl hT
  obtain ⟨rfl, hX⟩ := hX
  exact ho_hand (n := 1) (nx := 15) [] ⟨0, 10, 13, 21⟩ [] he hb ho hts hZ hn hret hlk hS htab (fun z hz => absurd hz List.not_mem_nil) (by decide) (by decide) wk_714 wk_715 h7 h8 h9 hat hX rfl (fun Q9 kk => lv_astore he hb dL_broken_13 hh9 (by rw [hm]; decide) rfl (fun ls' _ => kk ls')) dL_broken_15 dL_broken_16
def fL_letGo : ho_Z := (zS (zLs (eV 5) (eC 0) (eK mX6_letGo (aC (eV 0) (aC (eV 1) (aC (eV 2) (aC (eV 3) (aC (eV 4) aN))))))) (zR (eC 0)))
def xL_letGo (Q : ho_K) : ho_X := fun ec σ => (ec = 2 ∧ Q 1 σ) ∨ (ec = 0 ∧ Q 2 σ) ∨ (ec = 1 ∧ Q 3 σ)
def mL_letGo : ho_M := fun a σ Q _ => fL_letGo a σ (fun _ _ => False) Q (xL_letGo Q)
def hL_letGo : List (Nat × Nat × Nat × Nat) := [(0, 14, 17, 21), (0, 14, 21, 13), (0, 14, 25, 15)]
abbrev iL_letGo : ho_I := (RL, cL_letGo, 7, 9, 177, (some .int), (fun pc => pc = 9), (fun _ => True))
set_option maxRecDepth 20000 in
theorem kL_letGo : ho_MetW yL_letGo cL_letGo 7 hL_letGo 9 177 [11, 0, 0, 0, 0, 4] mL_letGo := by
  have fin : ho_SS iL_letGo 1 [11, 0, 0, 0, 0, 4] [11, 0, 0, 0, 0, 4] 0 9999 fL_letGo := ss_seq (ss_go (tgt := 29) (ss_lst (se_aload rfl dL_letGo_0) (se_iconst dL_letGo_2 rfl) (se_callV kX6_letGo (sa_cons (se_aload_n rfl rfl dL_letGo_3) (sa_cons (se_iload_n rfl rfl dL_letGo_4) (sa_cons (se_iload_n rfl rfl dL_letGo_5) (sa_cons (se_iload_n rfl rfl dL_letGo_6) (sa_cons (se_iload rfl dL_letGo_7) sa_nil))))) dL_letGo_9 wk_816 wk_817 wk_818 hcX6 wk_4 wk_819 ykX6_letGo (by decide) (by decide) (by decide) rfl) dL_letGo_12 dL_letGo_13) dL_letGo_14 rfl) (ss_ret (se_iconst dL_letGo_29 rfl) rfl dL_letGo_30)
  refine ho_ofW (XX := xL_letGo) fin (by decide +kernel) (by decide) rfl ?_
  intro p l e R s m args below meth c H locs dC dI cA ad A Q ls rest q ce σ ec pc T v he hb hm ho hts hZ hn hret hlk hS htab hpc hX hat hT hl h7 h8 h9
  cases hpc
  have hh9 := ho_ls_has hl hT
  rcases hX with ⟨rfl, hX⟩ | ⟨rfl, hX⟩ | ⟨rfl, hX⟩
  · exact ho_hand (n := 1) (nx := 19) [] ⟨0, 14, 17, 21⟩ [⟨0, 14, 21, 13⟩, ⟨0, 14, 25, 15⟩] he hb ho hts hZ hn hret hlk hS htab (fun z hz => absurd hz List.not_mem_nil) (by decide) (by decide) wk_714 wk_715 h7 h8 h9 hat hX rfl (fun Q9 kk => lv_astore he hb dL_letGo_17 hh9 (by rw [hm]; decide) rfl (fun ls' _ => kk ls')) dL_letGo_19 dL_letGo_20
  · exact ho_hand (n := 2) (nx := 23) [⟨0, 14, 17, 21⟩] ⟨0, 14, 21, 13⟩ [⟨0, 14, 25, 15⟩] he hb ho hts hZ hn hret hlk hS htab (fun z hz => by rcases List.mem_singleton.mp hz with rfl; exact Or.inr ⟨by decide, 2, wk_714, by decide⟩) (by decide) (by decide) wk_706 wk_707 h7 h8 h9 hat hX rfl (fun Q9 kk => lv_astore he hb dL_letGo_21 hh9 (by rw [hm]; decide) rfl (fun ls' _ => kk ls')) dL_letGo_23 dL_letGo_24
  · exact ho_hand (n := 3) (nx := 27) [⟨0, 14, 17, 21⟩, ⟨0, 14, 21, 13⟩] ⟨0, 14, 25, 15⟩ [] he hb ho hts hZ hn hret hlk hS htab (fun z hz => by rcases List.mem_cons.mp hz with rfl | hz; exact Or.inr ⟨by decide, 2, wk_714, by decide⟩; rcases List.mem_singleton.mp hz with rfl; exact Or.inr ⟨by decide, 0, wk_706, by decide⟩) (by decide) (by decide) wk_708 wk_709 h7 h8 h9 hat hX rfl (fun Q9 kk => lv_astore he hb dL_letGo_25 hh9 (by rw [hm]; decide) rfl (fun ls' _ => kk ls')) dL_letGo_27 dL_letGo_28
def fL_nameOf : ho_Z := (zS (zLs (eV 4) (eC 0) (eK mX6_nameOf (aC (eV 0) (aC (eV 1) (aC (eV 2) (aC (eV 3) aN)))))) (zR (eC 0)))
def xL_nameOf (Q : ho_K) : ho_X := fun ec σ => (ec = 2 ∧ Q 1 σ)
def mL_nameOf : ho_M := fun a σ Q _ => fL_nameOf a σ (fun _ _ => False) Q (xL_nameOf Q)
def hL_nameOf : List (Nat × Nat × Nat × Nat) := [(0, 12, 15, 21)]
abbrev iL_nameOf : ho_I := (RL, cL_nameOf, 6, 9, 149, (some .int), (fun pc => pc = 7), (fun _ => True))
set_option maxRecDepth 20000 in
theorem kL_nameOf : ho_MetW yL_nameOf cL_nameOf 6 hL_nameOf 9 149 [11, 0, 0, 0, 4] mL_nameOf := by
  have fin : ho_SS iL_nameOf 1 [11, 0, 0, 0, 4] [11, 0, 0, 0, 4] 0 9999 fL_nameOf := ss_seq (ss_go (tgt := 19) (ss_lst (se_aload rfl dL_nameOf_0) (se_iconst dL_nameOf_2 rfl) (se_callV kX6_nameOf (sa_cons (se_aload_n rfl rfl dL_nameOf_3) (sa_cons (se_iload_n rfl rfl dL_nameOf_4) (sa_cons (se_iload_n rfl rfl dL_nameOf_5) (sa_cons (se_iload_n rfl rfl dL_nameOf_6) sa_nil)))) dL_nameOf_7 wk_820 wk_821 wk_822 hcX6 wk_4 wk_823 ykX6_nameOf (by decide) (by decide) (by decide) rfl) dL_nameOf_10 dL_nameOf_11) dL_nameOf_12 rfl) (ss_ret (se_iconst dL_nameOf_19 rfl) rfl dL_nameOf_20)
  refine ho_ofW (XX := xL_nameOf) fin (by decide +kernel) (by decide) rfl ?_
  intro p l e R s m args below meth c H locs dC dI cA ad A Q ls rest q ce σ ec pc T v he hb hm ho hts hZ hn hret hlk hS htab hpc hX hat hT hl h7 h8 h9
  cases hpc
  have hh9 := ho_ls_has hl hT
  obtain ⟨rfl, hX⟩ := hX
  exact ho_hand (n := 1) (nx := 17) [] ⟨0, 12, 15, 21⟩ [] he hb ho hts hZ hn hret hlk hS htab (fun z hz => absurd hz List.not_mem_nil) (by decide) (by decide) wk_714 wk_715 h7 h8 h9 hat hX rfl (fun Q9 kk => lv_astore he hb dL_nameOf_15 hh9 (by rw [hm]; decide) rfl (fun ls' _ => kk ls')) dL_nameOf_17 dL_nameOf_18
def fL_faults : ho_Z := (zS (zLs (eV 2) (eC 0) (eK mX6_faults (aC (eV 0) (aC (eV 1) aN)))) (zR (eC 0)))
def xL_faults (Q : ho_K) : ho_X := fun ec σ => (ec = 2 ∧ Q 1 σ)
def mL_faults : ho_M := fun a σ Q _ => fL_faults a σ (fun _ _ => False) Q (xL_faults Q)
def hL_faults : List (Nat × Nat × Nat × Nat) := [(0, 9, 12, 21)]
abbrev iL_faults : ho_I := (RL, cL_faults, 4, 8, 175, (some .int), (fun pc => pc = 4), (fun _ => True))
set_option maxRecDepth 20000 in
theorem kL_faults : ho_MetW yL_faults cL_faults 4 hL_faults 8 175 [11, 0, 4] mL_faults := by
  have fin : ho_SS iL_faults 1 [11, 0, 4] [11, 0, 4] 0 9999 fL_faults := ss_seq (ss_go (tgt := 15) (ss_lst (se_aload_n rfl rfl dL_faults_0) (se_iconst dL_faults_1 rfl) (se_callV kX6_faults (sa_cons (se_aload_n rfl rfl dL_faults_2) (sa_cons (se_iload_n rfl rfl dL_faults_3) sa_nil)) dL_faults_4 wk_824 wk_825 wk_826 hcX6 wk_4 wk_827 ykX6_faults (by decide) (by decide) (by decide) rfl) dL_faults_7 dL_faults_8) dL_faults_9 rfl) (ss_ret (se_iconst dL_faults_15 rfl) rfl dL_faults_16)
  refine ho_ofW (XX := xL_faults) fin (by decide +kernel) (by decide) rfl ?_
  intro p l e R s m args below meth c H locs dC dI cA ad A Q ls rest q ce σ ec pc T v he hb hm ho hts hZ hn hret hlk hS htab hpc hX hat hT hl h7 h8 h9
  cases hpc
  have hh9 := ho_ls_has hl hT
  obtain ⟨rfl, hX⟩ := hX
  exact ho_hand (n := 1) (nx := 13) [] ⟨0, 9, 12, 21⟩ [] he hb ho hts hZ hn hret hlk hS htab (fun z hz => absurd hz List.not_mem_nil) (by decide) (by decide) wk_714 wk_715 h7 h8 h9 hat hX rfl (fun Q9 kk => lv_astore_n he hb dL_faults_12 rfl hh9 (by rw [hm]; decide) rfl (fun ls' _ => kk ls')) dL_faults_13 dL_faults_14
def fL_written : ho_Z := (zS (zLs (eV 3) (eC 0) (eK mX6_written (aC (eV 0) (aC (eV 1) (aC (eV 2) aN))))) (zR (eC 0)))
def xL_written (Q : ho_K) : ho_X := fun ec σ => (ec = 0 ∧ Q 1 σ) ∨ (ec = 2 ∧ Q 2 σ)
def mL_written : ho_M := fun a σ Q _ => fL_written a σ (fun _ _ => False) Q (xL_written Q)
def hL_written : List (Nat × Nat × Nat × Nat) := [(0, 10, 13, 13), (0, 10, 17, 21)]
abbrev iL_written : ho_I := (RL, cL_written, 5, 8, 175, (some .int), (fun pc => pc = 5), (fun _ => True))
set_option maxRecDepth 20000 in
theorem kL_written : ho_MetW yL_written cL_written 5 hL_written 8 175 [11, 0, 0, 4] mL_written := by
  have fin : ho_SS iL_written 1 [11, 0, 0, 4] [11, 0, 0, 4] 0 9999 fL_written := ss_seq (ss_go (tgt := 21) (ss_lst (se_aload_n rfl rfl dL_written_0) (se_iconst dL_written_1 rfl) (se_callV kX6_written (sa_cons (se_aload_n rfl rfl dL_written_2) (sa_cons (se_iload_n rfl rfl dL_written_3) (sa_cons (se_iload_n rfl rfl dL_written_4) sa_nil))) dL_written_5 wk_828 wk_829 wk_830 hcX6 wk_4 wk_831 ykX6_written (by decide) (by decide) (by decide) rfl) dL_written_8 dL_written_9) dL_written_10 rfl) (ss_ret (se_iconst dL_written_21 rfl) rfl dL_written_22)
  refine ho_ofW (XX := xL_written) fin (by decide +kernel) (by decide) rfl ?_
  intro p l e R s m args below meth c H locs dC dI cA ad A Q ls rest q ce σ ec pc T v he hb hm ho hts hZ hn hret hlk hS htab hpc hX hat hT hl h7 h8 h9
  cases hpc
  have hh9 := ho_ls_has hl hT
  rcases hX with ⟨rfl, hX⟩ | ⟨rfl, hX⟩
  · exact ho_hand (n := 1) (nx := 15) [] ⟨0, 10, 13, 13⟩ [⟨0, 10, 17, 21⟩] he hb ho hts hZ hn hret hlk hS htab (fun z hz => absurd hz List.not_mem_nil) (by decide) (by decide) wk_706 wk_707 h7 h8 h9 hat hX rfl (fun Q9 kk => lv_astore he hb dL_written_13 hh9 (by rw [hm]; decide) rfl (fun ls' _ => kk ls')) dL_written_15 dL_written_16
  · exact ho_hand (n := 2) (nx := 19) [⟨0, 10, 13, 13⟩] ⟨0, 10, 17, 21⟩ [] he hb ho hts hZ hn hret hlk hS htab (fun z hz => by rcases List.mem_singleton.mp hz with rfl; exact Or.inr ⟨by decide, 0, wk_706, by decide⟩) (by decide) (by decide) wk_714 wk_715 h7 h8 h9 hat hX rfl (fun Q9 kk => lv_astore he hb dL_written_17 hh9 (by rw [hm]; decide) rfl (fun ls' _ => kk ls')) dL_written_19 dL_written_20
def fL_writtenChar : ho_Z := (zS (zLs (eV 4) (eC 0) (eK mX6_writtenChar (aC (eV 0) (aC (eV 1) (aC (eV 2) (aC (eV 3) aN)))))) (zR (eC 0)))
def xL_writtenChar (Q : ho_K) : ho_X := fun ec σ => (ec = 0 ∧ Q 1 σ) ∨ (ec = 2 ∧ Q 2 σ)
def mL_writtenChar : ho_M := fun a σ Q _ => fL_writtenChar a σ (fun _ _ => False) Q (xL_writtenChar Q)
def hL_writtenChar : List (Nat × Nat × Nat × Nat) := [(0, 12, 15, 13), (0, 12, 19, 21)]
abbrev iL_writtenChar : ho_I := (RL, cL_writtenChar, 6, 8, 176, (some .int), (fun pc => pc = 7), (fun _ => True))
set_option maxRecDepth 20000 in
theorem kL_writtenChar : ho_MetW yL_writtenChar cL_writtenChar 6 hL_writtenChar 8 176 [11, 0, 0, 0, 4] mL_writtenChar := by
  have fin : ho_SS iL_writtenChar 1 [11, 0, 0, 0, 4] [11, 0, 0, 0, 4] 0 9999 fL_writtenChar := ss_seq (ss_go (tgt := 23) (ss_lst (se_aload rfl dL_writtenChar_0) (se_iconst dL_writtenChar_2 rfl) (se_callV kX6_writtenChar (sa_cons (se_aload_n rfl rfl dL_writtenChar_3) (sa_cons (se_iload_n rfl rfl dL_writtenChar_4) (sa_cons (se_iload_n rfl rfl dL_writtenChar_5) (sa_cons (se_iload_n rfl rfl dL_writtenChar_6) sa_nil)))) dL_writtenChar_7 wk_832 wk_833 wk_834 hcX6 wk_4 wk_835 ykX6_writtenChar (by decide) (by decide) (by decide) rfl) dL_writtenChar_10 dL_writtenChar_11) dL_writtenChar_12 rfl) (ss_ret (se_iconst dL_writtenChar_23 rfl) rfl dL_writtenChar_24)
  refine ho_ofW (XX := xL_writtenChar) fin (by decide +kernel) (by decide) rfl ?_
  intro p l e R s m args below meth c H locs dC dI cA ad A Q ls rest q ce σ ec pc T v he hb hm ho hts hZ hn hret hlk hS htab hpc hX hat hT hl h7 h8 h9
  cases hpc
  have hh9 := ho_ls_has hl hT
  rcases hX with ⟨rfl, hX⟩ | ⟨rfl, hX⟩
  · exact ho_hand (n := 1) (nx := 17) [] ⟨0, 12, 15, 13⟩ [⟨0, 12, 19, 21⟩] he hb ho hts hZ hn hret hlk hS htab (fun z hz => absurd hz List.not_mem_nil) (by decide) (by decide) wk_706 wk_707 h7 h8 h9 hat hX rfl (fun Q9 kk => lv_astore he hb dL_writtenChar_15 hh9 (by rw [hm]; decide) rfl (fun ls' _ => kk ls')) dL_writtenChar_17 dL_writtenChar_18
  · exact ho_hand (n := 2) (nx := 21) [⟨0, 12, 15, 13⟩] ⟨0, 12, 19, 21⟩ [] he hb ho hts hZ hn hret hlk hS htab (fun z hz => by rcases List.mem_singleton.mp hz with rfl; exact Or.inr ⟨by decide, 0, wk_706, by decide⟩) (by decide) (by decide) wk_714 wk_715 h7 h8 h9 hat hX rfl (fun Q9 kk => lv_astore he hb dL_writtenChar_19 hh9 (by rw [hm]; decide) rfl (fun ls' _ => kk ls')) dL_writtenChar_21 dL_writtenChar_22
