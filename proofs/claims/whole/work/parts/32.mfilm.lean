-- the model's film: object 30; 1 shots, 5 size, 8 captions; 31 frames 32 place 33 lies 34 film 35 aside 36 look 37 start 38 length 39 startThen 40 lengthThen
theorem sp_findsPlaces {σ : ho_S} {Q : ho_K} {X : ho_X} (h0 : 0 ≤ σ 30 1) (h1 : σ 30 1 ≤ 12) (h2 : 0 ≤ σ 30 5) (h3 : σ 30 5 ≤ 4800) (hf : ∀ i : Nat, (i : Int) < σ 30 5 → 0 ≤ σ 34 i ∧ σ 34 i < 4800)
    (h : Q 0 (sa σ 32 (rnum (σ 34) (fun k => if (k : Int) < 400 * σ 30 1 then -1 else σ 32 k) 0 (σ 30 5).toNat))) : mX7_findsPlaces [30] σ Q X := by
  simp only [mX7_findsPlaces, fX7_findsPlaces, u_eC, u_eV, u_eF, u_eR, u_eI, u_eL, u_eB, u_eD, u_eM, u_eU, u_aN, u_aC, u_eK, u_eT, u_cLt, u_cLe, u_cGt, u_cGe, u_cEq, u_cNe, u_cAnd, u_cOr, u_cNot, u_zN, u_zS, u_zD, u_zL, u_zI, u_zB, u_zP, u_zF, u_zA, u_zU, u_zC, u_zR, u_zRZ, u_zRC, u_zRV, u_zT, u_zE, u_zK, u_zY, ho_nid, List.getD_cons_zero, List.getD_cons_succ, List.set_cons_zero, List.set_cons_succ, List.cons_append, List.nil_append, List.take_succ_cons, List.take_zero, Int.reduceToNat, Int.toNat_natCast, nN_0, nN_1, nN_2, nN_3, nN_4, nN_5, nN_6, nN_7, nN_8, nN_9, nN_10, nN_11, nN_12, nN_13, nN_14, nN_15, nN_16, nN_17, nN_18, nN_19, nN_20, nN_21, nN_22, nN_23, nN_24, nN_25, nN_26, nN_27, nN_28, nN_29, nN_30, nN_31, nN_32, nN_33, nN_34, nN_35, nN_36, nN_37, nN_38, nN_39, nN_40, nN_41, nN_42, nN_43, nN_44, nN_45, nN_46, nN_47, nN_48, nN_49, nN_50, nN_51, nN_52, nN_53, nN_54, nR_0_0, nR_0_1, nR_0_2, nR_0_3, nR_0_4, nR_0_5, nR_0_6, nR_0_7, nR_0_8, nR_0_9, nR_0_10, nR_1_0, nR_1_1, nR_1_2, nR_1_3, nR_1_4, nR_2_0, nR_2_1, nR_2_2, nR_2_3, nR_2_4, nR_3_0, nR_3_1, nR_4_2, nR_5_2, nR_6_0, nR_6_1, nR_6_2, nR_7_0, nR_30_2, nR_30_3, nR_30_4, nR_30_6, nR_30_7, nR_30_9, nR_30_10, nR_30_11, nR_30_12, nR_30_13, nR_30_14, nR_30_15, nR_30_16, nR_30_18, nR_30_19, nR_30_20, nR_30_21, nR_30_22, nR_30_23, nR_30_24, nR_30_28, nR_30_29, nR_30_31]
  refine zW_rule (fun v σ' m => ∃ k : Nat, (k : Int) ≤ 400 * σ 30 1 ∧ v = [30, (k : Int)] ∧ m = (400 * σ 30 1).toNat - k ∧ σ' = sa σ 32 (fun j => if j < k then -1 else σ 32 j)) _ ⟨0, by omega, rfl, rfl, by
    rw [show (fun j => if j < 0 then (-1 : Int) else σ 32 j) = σ 32 from funext fun j => if_neg (by omega), sa_id]⟩ ?_
  rintro v σ' m ⟨k, hk, rfl, rfl, rfl⟩ KK KE hKK hKE
  simp only [u_eC, u_eV, u_eF, u_eR, u_eI, u_eL, u_eB, u_eD, u_eM, u_eU, u_aN, u_aC, u_eK, u_eT, u_cLt, u_cLe, u_cGt, u_cGe, u_cEq, u_cNe, u_cAnd, u_cOr, u_cNot, u_zN, u_zS, u_zD, u_zL, u_zI, u_zB, u_zP, u_zF, u_zA, u_zU, u_zC, u_zR, u_zRZ, u_zRC, u_zRV, u_zT, u_zE, u_zK, u_zY, ho_nid, List.getD_cons_zero, List.getD_cons_succ, List.set_cons_zero, List.set_cons_succ, List.cons_append, List.nil_append, List.take_succ_cons, List.take_zero, Int.reduceToNat, Int.toNat_natCast, nN_0, nN_1, nN_2, nN_3, nN_4, nN_5, nN_6, nN_7, nN_8, nN_9, nN_10, nN_11, nN_12, nN_13, nN_14, nN_15, nN_16, nN_17, nN_18, nN_19, nN_20, nN_21, nN_22, nN_23, nN_24, nN_25, nN_26, nN_27, nN_28, nN_29, nN_30, nN_31, nN_32, nN_33, nN_34, nN_35, nN_36, nN_37, nN_38, nN_39, nN_40, nN_41, nN_42, nN_43, nN_44, nN_45, nN_46, nN_47, nN_48, nN_49, nN_50, nN_51, nN_52, nN_53, nN_54, nR_0_0, nR_0_1, nR_0_2, nR_0_3, nR_0_4, nR_0_5, nR_0_6, nR_0_7, nR_0_8, nR_0_9, nR_0_10, nR_1_0, nR_1_1, nR_1_2, nR_1_3, nR_1_4, nR_2_0, nR_2_1, nR_2_2, nR_2_3, nR_2_4, nR_3_0, nR_3_1, nR_4_2, nR_5_2, nR_6_0, nR_6_1, nR_6_2, nR_7_0, nR_30_2, nR_30_3, nR_30_4, nR_30_6, nR_30_7, nR_30_9, nR_30_10, nR_30_11, nR_30_12, nR_30_13, nR_30_14, nR_30_15, nR_30_16, nR_30_18, nR_30_19, nR_30_20, nR_30_21, nR_30_22, nR_30_23, nR_30_24, nR_30_28, nR_30_29, nR_30_31, saF, saE, ho_upF, ho_upE, ne_eq, not_false_eq_true, Nat.reduceEqDiff, ho_omul]
  simp only [mR_30_2, mR_30_3, mR_30_4, mR_30_6, mR_30_7, mR_30_9, mR_30_10, mR_30_11, mR_30_12, mR_30_13, mR_30_14, mR_30_15, mR_30_16, mR_30_18, mR_30_19, mR_30_20, mR_30_21, mR_30_22, mR_30_23, mR_30_24, mR_30_28, mR_30_29, mR_30_31, mR_0_9, mR_7_0, nN_25, nN_26, nN_27, nN_28, nN_29, nN_30, nN_31, nN_32, nN_33, nN_34, nN_35, nN_36, nN_37, nN_38, nN_39, nN_40, nN_41, nN_42, nN_43, nN_44, nN_45, nN_46, nN_47, nN_48, nN_49, nN_50, nN_51, nN_52, nN_53, nN_54, Int.toNat_natCast, saF, saE, ho_upF, ho_upE, ne_eq, not_false_eq_true, Nat.reduceEqDiff]
  rw [wE (by omega) (by omega)]
  refine ⟨fun c1 => ⟨by omega, hKK _ _ ((400 * σ 30 1).toNat - (k + 1)) (by omega) ⟨k + 1, by omega, ?_, rfl, ?_⟩⟩, fun c1 => hKE _ ?_⟩
  · rw [wE (by omega) (by omega)]; simp
  · rw [sa_up]
    refine sa_congr fun j => ?_
    grind
  have hk2 : (k : Int) = 400 * σ 30 1 := by omega
  refine zW_rule (fun v σ' m => ∃ p : Nat, (p : Int) ≤ σ 30 5 ∧ v = [30, (p : Int)] ∧ m = (σ 30 5).toNat - p ∧ σ' = sa σ 32 (rnum (σ 34) (fun k => if (k : Int) < 400 * σ 30 1 then -1 else σ 32 k) 0 p)) _ ⟨0, by omega, rfl, rfl, ?_⟩ ?_
  · refine sa_congr fun j => ?_
    show _ = if (j : Int) < 400 * σ 30 1 then -1 else σ 32 j
    grind
  rintro v σ' m ⟨p, hp, rfl, rfl, rfl⟩ KK KE hKK hKE
  simp only [u_eC, u_eV, u_eF, u_eR, u_eI, u_eL, u_eB, u_eD, u_eM, u_eU, u_aN, u_aC, u_eK, u_eT, u_cLt, u_cLe, u_cGt, u_cGe, u_cEq, u_cNe, u_cAnd, u_cOr, u_cNot, u_zN, u_zS, u_zD, u_zL, u_zI, u_zB, u_zP, u_zF, u_zA, u_zU, u_zC, u_zR, u_zRZ, u_zRC, u_zRV, u_zT, u_zE, u_zK, u_zY, ho_nid, List.getD_cons_zero, List.getD_cons_succ, List.set_cons_zero, List.set_cons_succ, List.cons_append, List.nil_append, List.take_succ_cons, List.take_zero, Int.reduceToNat, Int.toNat_natCast, nN_0, nN_1, nN_2, nN_3, nN_4, nN_5, nN_6, nN_7, nN_8, nN_9, nN_10, nN_11, nN_12, nN_13, nN_14, nN_15, nN_16, nN_17, nN_18, nN_19, nN_20, nN_21, nN_22, nN_23, nN_24, nN_25, nN_26, nN_27, nN_28, nN_29, nN_30, nN_31, nN_32, nN_33, nN_34, nN_35, nN_36, nN_37, nN_38, nN_39, nN_40, nN_41, nN_42, nN_43, nN_44, nN_45, nN_46, nN_47, nN_48, nN_49, nN_50, nN_51, nN_52, nN_53, nN_54, nR_0_0, nR_0_1, nR_0_2, nR_0_3, nR_0_4, nR_0_5, nR_0_6, nR_0_7, nR_0_8, nR_0_9, nR_0_10, nR_1_0, nR_1_1, nR_1_2, nR_1_3, nR_1_4, nR_2_0, nR_2_1, nR_2_2, nR_2_3, nR_2_4, nR_3_0, nR_3_1, nR_4_2, nR_5_2, nR_6_0, nR_6_1, nR_6_2, nR_7_0, nR_30_2, nR_30_3, nR_30_4, nR_30_6, nR_30_7, nR_30_9, nR_30_10, nR_30_11, nR_30_12, nR_30_13, nR_30_14, nR_30_15, nR_30_16, nR_30_18, nR_30_19, nR_30_20, nR_30_21, nR_30_22, nR_30_23, nR_30_24, nR_30_28, nR_30_29, nR_30_31, saF, saE, ho_upF, ho_upE, ne_eq, not_false_eq_true, Nat.reduceEqDiff]
  simp only [mR_30_2, mR_30_3, mR_30_4, mR_30_6, mR_30_7, mR_30_9, mR_30_10, mR_30_11, mR_30_12, mR_30_13, mR_30_14, mR_30_15, mR_30_16, mR_30_18, mR_30_19, mR_30_20, mR_30_21, mR_30_22, mR_30_23, mR_30_24, mR_30_28, mR_30_29, mR_30_31, mR_0_9, mR_7_0, nN_25, nN_26, nN_27, nN_28, nN_29, nN_30, nN_31, nN_32, nN_33, nN_34, nN_35, nN_36, nN_37, nN_38, nN_39, nN_40, nN_41, nN_42, nN_43, nN_44, nN_45, nN_46, nN_47, nN_48, nN_49, nN_50, nN_51, nN_52, nN_53, nN_54, Int.toNat_natCast, saF, saE, ho_upF, ho_upE, ne_eq, not_false_eq_true, Nat.reduceEqDiff]
  refine ⟨fun c1 => ?_, fun c1 => hKE _ ?_⟩
  · have hv := hf p c1
    refine ⟨by omega, by omega, hKK _ _ ((σ 30 5).toNat - (p + 1)) (by omega) ⟨p + 1, by omega, ?_, rfl, ?_⟩⟩
    · rw [wE (by omega) (by omega)]; simp
    · rw [sa_up]
      refine sa_congr fun j => ?_
      show _ = rnum (σ 34) _ 0 (p + 1) j
      show _ = if j = (σ 34 (0 + p)).toNat then ((0 + p : Nat) : Int) else rnum (σ 34) _ 0 p j
      rw [Nat.zero_add]
  · have : (σ 30 5).toNat = p := by omega
    rw [this] at h
    exact h
theorem up_two {σ : ho_S} {c : Nat} {s l s' l' : Int} : ho_up (ho_up (ho_up (ho_up σ 37 c s) 38 c l) 38 c l') 37 c s' = ho_up (ho_up σ 37 c s') 38 c l' := by
  funext q j; unfold ho_up; grind
theorem sp_findsTime {c n : Nat} {σ : ho_S} {Q : ho_K} {X : ho_X} (hc : c < 16) (hn : σ 30 5 = n) (h3 : n ≤ 4800) (hf : ∀ i : Nat, i < n → 0 ≤ σ 34 i ∧ σ 34 i < 4800) (hl : ∀ k : Nat, k < 4800 → ∃ x : Nat, σ 33 k = x ∧ x < 65536)
    (h : ∀ s l, LR (fun i => bit (σ 33 (σ 34 i).toNat) c = true) n s l → Q 0 (ho_up (ho_up σ 37 c s) 38 c l)) : mX7_findsTime [30, (c : Int)] σ Q X := by
  simp only [mX7_findsTime, fX7_findsTime, u_eC, u_eV, u_eF, u_eR, u_eI, u_eL, u_eB, u_eD, u_eM, u_eU, u_aN, u_aC, u_eK, u_eT, u_cLt, u_cLe, u_cGt, u_cGe, u_cEq, u_cNe, u_cAnd, u_cOr, u_cNot, u_zN, u_zS, u_zD, u_zL, u_zI, u_zB, u_zP, u_zF, u_zA, u_zU, u_zC, u_zR, u_zRZ, u_zRC, u_zRV, u_zT, u_zE, u_zK, u_zY, ho_nid, List.getD_cons_zero, List.getD_cons_succ, List.set_cons_zero, List.set_cons_succ, List.cons_append, List.nil_append, List.take_succ_cons, List.take_zero, Int.reduceToNat, Int.toNat_natCast, nN_0, nN_1, nN_2, nN_3, nN_4, nN_5, nN_6, nN_7, nN_8, nN_9, nN_10, nN_11, nN_12, nN_13, nN_14, nN_15, nN_16, nN_17, nN_18, nN_19, nN_20, nN_21, nN_22, nN_23, nN_24, nN_25, nN_26, nN_27, nN_28, nN_29, nN_30, nN_31, nN_32, nN_33, nN_34, nN_35, nN_36, nN_37, nN_38, nN_39, nN_40, nN_41, nN_42, nN_43, nN_44, nN_45, nN_46, nN_47, nN_48, nN_49, nN_50, nN_51, nN_52, nN_53, nN_54, nR_0_0, nR_0_1, nR_0_2, nR_0_3, nR_0_4, nR_0_5, nR_0_6, nR_0_7, nR_0_8, nR_0_9, nR_0_10, nR_1_0, nR_1_1, nR_1_2, nR_1_3, nR_1_4, nR_2_0, nR_2_1, nR_2_2, nR_2_3, nR_2_4, nR_3_0, nR_3_1, nR_4_2, nR_5_2, nR_6_0, nR_6_1, nR_6_2, nR_7_0, nR_30_2, nR_30_3, nR_30_4, nR_30_6, nR_30_7, nR_30_9, nR_30_10, nR_30_11, nR_30_12, nR_30_13, nR_30_14, nR_30_15, nR_30_16, nR_30_18, nR_30_19, nR_30_20, nR_30_21, nR_30_22, nR_30_23, nR_30_24, nR_30_28, nR_30_29, nR_30_31]
  simp only [mR_30_2, mR_30_3, mR_30_4, mR_30_6, mR_30_7, mR_30_9, mR_30_10, mR_30_11, mR_30_12, mR_30_13, mR_30_14, mR_30_15, mR_30_16, mR_30_18, mR_30_19, mR_30_20, mR_30_21, mR_30_22, mR_30_23, mR_30_24, mR_30_28, mR_30_29, mR_30_31, mR_0_9, mR_7_0, nN_25, nN_26, nN_27, nN_28, nN_29, nN_30, nN_31, nN_32, nN_33, nN_34, nN_35, nN_36, nN_37, nN_38, nN_39, nN_40, nN_41, nN_42, nN_43, nN_44, nN_45, nN_46, nN_47, nN_48, nN_49, nN_50, nN_51, nN_52, nN_53, nN_54, Int.toNat_natCast]
  refine ⟨by omega, by omega, ?_⟩
  refine zW_rule (fun v σ' m => ∃ (p : Nat) (r s l : Int), p ≤ n ∧ v = [30, (c : Int), r, (p : Int)] ∧ m = n - p ∧ σ' = ho_up (ho_up σ 37 c s) 38 c l ∧ SC (fun i => bit (σ 33 (σ 34 i).toNat) c = true) p r s l) _ ⟨0, 0, -1, 0, by omega, rfl, rfl, rfl, SC_0⟩ ?_
  rintro v σ' m ⟨p, r, s, l, hp, rfl, rfl, rfl, hs⟩ KK KE hKK hKE
  simp only [u_eC, u_eV, u_eF, u_eR, u_eI, u_eL, u_eB, u_eD, u_eM, u_eU, u_aN, u_aC, u_eK, u_eT, u_cLt, u_cLe, u_cGt, u_cGe, u_cEq, u_cNe, u_cAnd, u_cOr, u_cNot, u_zN, u_zS, u_zD, u_zL, u_zI, u_zB, u_zP, u_zF, u_zA, u_zU, u_zC, u_zR, u_zRZ, u_zRC, u_zRV, u_zT, u_zE, u_zK, u_zY, ho_nid, List.getD_cons_zero, List.getD_cons_succ, List.set_cons_zero, List.set_cons_succ, List.cons_append, List.nil_append, List.take_succ_cons, List.take_zero, Int.reduceToNat, Int.toNat_natCast, nN_0, nN_1, nN_2, nN_3, nN_4, nN_5, nN_6, nN_7, nN_8, nN_9, nN_10, nN_11, nN_12, nN_13, nN_14, nN_15, nN_16, nN_17, nN_18, nN_19, nN_20, nN_21, nN_22, nN_23, nN_24, nN_25, nN_26, nN_27, nN_28, nN_29, nN_30, nN_31, nN_32, nN_33, nN_34, nN_35, nN_36, nN_37, nN_38, nN_39, nN_40, nN_41, nN_42, nN_43, nN_44, nN_45, nN_46, nN_47, nN_48, nN_49, nN_50, nN_51, nN_52, nN_53, nN_54, nR_0_0, nR_0_1, nR_0_2, nR_0_3, nR_0_4, nR_0_5, nR_0_6, nR_0_7, nR_0_8, nR_0_9, nR_0_10, nR_1_0, nR_1_1, nR_1_2, nR_1_3, nR_1_4, nR_2_0, nR_2_1, nR_2_2, nR_2_3, nR_2_4, nR_3_0, nR_3_1, nR_4_2, nR_5_2, nR_6_0, nR_6_1, nR_6_2, nR_7_0, nR_30_2, nR_30_3, nR_30_4, nR_30_6, nR_30_7, nR_30_9, nR_30_10, nR_30_11, nR_30_12, nR_30_13, nR_30_14, nR_30_15, nR_30_16, nR_30_18, nR_30_19, nR_30_20, nR_30_21, nR_30_22, nR_30_23, nR_30_24, nR_30_28, nR_30_29, nR_30_31, saF, saE, ho_upF, ho_upE, ne_eq, not_false_eq_true, Nat.reduceEqDiff]
  simp only [mR_30_2, mR_30_3, mR_30_4, mR_30_6, mR_30_7, mR_30_9, mR_30_10, mR_30_11, mR_30_12, mR_30_13, mR_30_14, mR_30_15, mR_30_16, mR_30_18, mR_30_19, mR_30_20, mR_30_21, mR_30_22, mR_30_23, mR_30_24, mR_30_28, mR_30_29, mR_30_31, mR_0_9, mR_7_0, nN_25, nN_26, nN_27, nN_28, nN_29, nN_30, nN_31, nN_32, nN_33, nN_34, nN_35, nN_36, nN_37, nN_38, nN_39, nN_40, nN_41, nN_42, nN_43, nN_44, nN_45, nN_46, nN_47, nN_48, nN_49, nN_50, nN_51, nN_52, nN_53, nN_54, Int.toNat_natCast, saF, saE, ho_upF, ho_upE, ne_eq, not_false_eq_true, Nat.reduceEqDiff]
  refine ⟨fun c1 => ?_, fun c1 => hKE _ ?_⟩
  · have hpn : p < n := by omega
    have hv := hf p hpn
    obtain ⟨x, hx, hx2⟩ := hl (σ 34 p).toNat (by omega)
    have hb : (ho_oand (ho_oshr (σ 33 (σ 34 p).toNat) (c : Int)) 1 = 1) ↔ bit (σ 33 (σ 34 p).toNat) c = true := by
      rw [hx]; exact shr_bit (by omega) (by omega)
    have ew : ho_w ((p : Int) + 1) = ((p + 1 : Nat) : Int) := by rw [wE (by omega) (by omega)]; simp
    simp only [hb, ew, ho_oadd, ho_osub]
    clear hb ew hx
    have hr := hs.1
    have hr2 := hs.2.1
    have el := (LR_pos hs.2.2.2.2)
    have ea : ho_w (r + 1) = r + 1 := wE (by omega) (by omega)
    have eb : ho_w (ho_w ((p : Int) - (r + 1)) + 1) = p - r := by rw [wE (x := (p : Int) - (r + 1)) (by omega) (by omega), wE (by omega) (by omega)]; omega
    refine ⟨by omega, by omega, fun q => ?_, fun q => ?_⟩
    · rw [ea, eb]
      clear ea eb
      have hS := SC_on hs q
      refine ⟨by omega, fun g => ⟨by omega, by omega, ?_⟩, fun g => ?_⟩
      · rw [up_two]
        rw [if_pos g, if_pos g] at hS
        exact hKK _ _ (n - (p + 1)) (by omega) ⟨p + 1, r + 1, _, _, by omega, rfl, rfl, rfl, hS⟩
      · rw [if_neg (by omega), if_neg (by omega)] at hS
        exact hKK _ _ (n - (p + 1)) (by omega) ⟨p + 1, r + 1, _, _, by omega, rfl, rfl, rfl, hS⟩
    · clear ea eb
      have hS := SC_off hs q
      refine ⟨by omega, fun g => absurd g (by omega), fun g => ?_⟩
      exact hKK _ _ (n - (p + 1)) (by omega) ⟨p + 1, 0, _, _, by omega, rfl, rfl, rfl, hS⟩
  · have : p = n := by omega
    subst this
    exact h s l hs.2.2.2.2
