theorem sp_cSBF {S N M c : Nat} {σ : ho_S} {Q : ho_K} {X : ho_X} (h1 : GS S N M σ) (h2 : GF S N σ) (h5 : GL S M σ) (hc : c < M) (h : ∀ s l, LR (fun i => bit (σ 33 (σ 34 i).toNat) c = true) N s l → Q s σ) : mX6_startByFrames [0, (c : Int)] σ Q X := by
  have hM := h1.2.2.2.2.2.2
  have hN : N ≤ 4800 := by have := h2.1; have := h2.2.1; omega
  simp only [mX6_startByFrames, fX6_startByFrames, u_eC, u_eV, u_eF, u_eR, u_eI, u_eL, u_eB, u_eD, u_eM, u_eU, u_aN, u_aC, u_eK, u_eT, u_cLt, u_cLe, u_cGt, u_cGe, u_cEq, u_cNe, u_cAnd, u_cOr, u_cNot, u_zN, u_zS, u_zD, u_zL, u_zI, u_zB, u_zP, u_zF, u_zA, u_zU, u_zC, u_zR, u_zRZ, u_zRC, u_zRV, u_zT, u_zE, u_zK, u_zY, ho_nid, List.getD_cons_zero, List.getD_cons_succ, List.set_cons_zero, List.set_cons_succ, List.cons_append, List.nil_append, List.take_succ_cons, List.take_zero, Int.reduceToNat, Int.toNat_natCast, nN_0, nN_1, nN_2, nN_3, nN_4, nN_5, nN_6, nN_7, nN_8, nN_9, nN_10, nN_11, nN_12, nN_13, nN_14, nN_15, nN_16, nN_17, nN_18, nN_19, nN_20, nN_21, nN_22, nN_23, nN_24, nN_25, nN_26, nN_27, nN_28, nN_29, nN_30, nN_31, nN_32, nN_33, nN_34, nN_35, nN_36, nN_37, nN_38, nN_39, nN_40, nN_41, nN_42, nN_43, nN_44, nN_45, nN_46, nN_47, nN_48, nN_49, nN_50, nN_51, nN_52, nN_53, nN_54, nR_0_0, nR_0_1, nR_0_2, nR_0_3, nR_0_4, nR_0_5, nR_0_6, nR_0_7, nR_0_8, nR_0_9, nR_0_10, nR_1_0, nR_1_1, nR_1_2, nR_1_3, nR_1_4, nR_2_0, nR_2_1, nR_2_2, nR_2_3, nR_2_4, nR_3_0, nR_3_1, nR_4_2, nR_5_2, nR_6_0, nR_6_1, nR_6_2, nR_7_0, nR_30_2, nR_30_3, nR_30_4, nR_30_6, nR_30_7, nR_30_9, nR_30_10, nR_30_11, nR_30_12, nR_30_13, nR_30_14, nR_30_15, nR_30_16, nR_30_18, nR_30_19, nR_30_20, nR_30_21, nR_30_22, nR_30_23, nR_30_24, nR_30_28, nR_30_29, nR_30_31, sp_needCaption, h1.2.2.2.2.1]
  rw [if_pos (by omega)]
  refine zW_rule (fun v σ' m => ∃ (k : Nat) (r s l : Int), (k ≤ N) ∧ v = [0, (c : Int), s, l, r, (k : Int)] ∧ m = N - k ∧ σ' = σ ∧ SC (fun i => bit (σ 33 (σ 34 i).toNat) c = true) k r s l) _ ⟨0, 0, -1, 0, by omega, rfl, rfl, rfl, SC_0⟩ ?_
  rintro v σ' m ⟨k, r, s, l, hk, rfl, rfl, rfl, hs⟩ KK KE hKK hKE
  simp only [u_eC, u_eV, u_eF, u_eR, u_eI, u_eL, u_eB, u_eD, u_eM, u_eU, u_aN, u_aC, u_eK, u_eT, u_cLt, u_cLe, u_cGt, u_cGe, u_cEq, u_cNe, u_cAnd, u_cOr, u_cNot, u_zN, u_zS, u_zD, u_zL, u_zI, u_zB, u_zP, u_zF, u_zA, u_zU, u_zC, u_zR, u_zRZ, u_zRC, u_zRV, u_zT, u_zE, u_zK, u_zY, ho_nid, List.getD_cons_zero, List.getD_cons_succ, List.set_cons_zero, List.set_cons_succ, List.cons_append, List.nil_append, List.take_succ_cons, List.take_zero, Int.reduceToNat, Int.toNat_natCast, nN_0, nN_1, nN_2, nN_3, nN_4, nN_5, nN_6, nN_7, nN_8, nN_9, nN_10, nN_11, nN_12, nN_13, nN_14, nN_15, nN_16, nN_17, nN_18, nN_19, nN_20, nN_21, nN_22, nN_23, nN_24, nN_25, nN_26, nN_27, nN_28, nN_29, nN_30, nN_31, nN_32, nN_33, nN_34, nN_35, nN_36, nN_37, nN_38, nN_39, nN_40, nN_41, nN_42, nN_43, nN_44, nN_45, nN_46, nN_47, nN_48, nN_49, nN_50, nN_51, nN_52, nN_53, nN_54, nR_0_0, nR_0_1, nR_0_2, nR_0_3, nR_0_4, nR_0_5, nR_0_6, nR_0_7, nR_0_8, nR_0_9, nR_0_10, nR_1_0, nR_1_1, nR_1_2, nR_1_3, nR_1_4, nR_2_0, nR_2_1, nR_2_2, nR_2_3, nR_2_4, nR_3_0, nR_3_1, nR_4_2, nR_5_2, nR_6_0, nR_6_1, nR_6_2, nR_7_0, nR_30_2, nR_30_3, nR_30_4, nR_30_6, nR_30_7, nR_30_9, nR_30_10, nR_30_11, nR_30_12, nR_30_13, nR_30_14, nR_30_15, nR_30_16, nR_30_18, nR_30_19, nR_30_20, nR_30_21, nR_30_22, nR_30_23, nR_30_24, nR_30_28, nR_30_29, nR_30_31, sp_fsize, h1.2.2.1, inc (show k < 100000 by omega)]
  refine ⟨fun c1 => ?_, fun c1 => hKE _ ?_⟩
  · have hkN : k < N := by omega
    refine sp_marksAt.mpr ?_
    rw [mkA_in h1 h2 h5 hkN]
    refine sp_isMarked.mpr ?_
    have f9 := h2.2.2.2.1 k hkN
    obtain ⟨x, hx, hx2⟩ := h5.1 (σ' 34 k).toNat (by omega)
    have hb : (ho_oand (σ' 33 (σ' 34 k).toNat) (ho_oshl 1 (c : Int)) ≠ 0) ↔ bit (σ' 33 (σ' 34 k).toNat) c = true := by
      rw [hx]; exact and_bit (by omega) (by omega)
    have r1 := hs.1
    have r2 := hs.2.1
    have el := LR_pos hs.2.2.2.2
    simp only [hb, ite01, ite01e]
    clear hb hx
    refine ⟨fun q => ?_, fun q => ?_⟩
    · have hS := SC_on hs q
      rw [wad (by omega) (by omega)]
      refine ⟨fun g => ?_, fun g => ?_⟩
      · rw [if_pos g, if_pos g] at hS
        rw [oinc (by omega), wsu (by omega) (by omega), show ((k + 1 : Nat) : Int) - (r + 1) = (k : Int) - r by omega]
        exact hKK _ _ (N - (k + 1)) (by omega) ⟨k + 1, _, _, _, by omega, rfl, rfl, rfl, hS⟩
      · rw [if_neg (by omega), if_neg (by omega)] at hS
        exact hKK _ _ (N - (k + 1)) (by omega) ⟨k + 1, _, _, _, by omega, rfl, rfl, rfl, hS⟩
    · have hS := SC_off hs q
      refine ⟨fun g => absurd g (by omega), fun g => ?_⟩
      exact hKK _ _ (N - (k + 1)) (by omega) ⟨k + 1, _, _, _, by omega, rfl, rfl, rfl, hS⟩
  · have hkN : k = N := by omega
    subst hkN
    exact h s l hs.2.2.2.2

theorem op_startByFrames {j : Nat} {σ : ho_S} {p : Int} (hj : j < 512) (hI : hi_Inv j σ) : mX6_startByFrames [0, p] σ (fun a σ => mX7_startByFrames [30, p] (ho_up σ 54 0 a) (fun b σ => σ 30 0 = 0 ∧ σ 54 0 = b ∧ hi_Inv (j + 1) σ) (fun _ _ => False)) (fun ec σ => (ec = 2 ∧ mX7_startByFrames [30, p] σ (fun _ σ => σ 30 0 = 1 ∧ hi_Inv (j + 1) σ) (fun _ _ => False))) := by
  have hI0 := hI
  obtain ⟨_, S, N, M, h1, h2, h3, h4, h5, h6, h7, h8, h9, h10, h11, h12, h13⟩ := hI
  have hM := h1.2.2.2.2.2.2
  have hN : N ≤ 4800 := by have := h2.1; have := h2.2.1; omega
  by_cases c : 0 ≤ p ∧ p < (M : Int)
  · obtain ⟨q, rfl⟩ : ∃ q : Nat, p = (q : Int) := ⟨p.toNat, by omega⟩
    refine sp_cSBF h1 h2 h5 (by omega) (fun s l hs => ?_)
    have e := (LR_uniq hs (h6.1 q (by omega)).2.2).1
    refine tau (fun τ sτ τ54 eτ => ?_)
    have m := mGS h1 sτ
    simp only [mX7_startByFrames, fX7_startByFrames, mX7_asksCaption, fX7_asksCaption, u_eC, u_eV, u_eF, u_eR, u_eI, u_eL, u_eB, u_eD, u_eM, u_eU, u_aN, u_aC, u_eK, u_eT, u_cLt, u_cLe, u_cGt, u_cGe, u_cEq, u_cNe, u_cAnd, u_cOr, u_cNot, u_zN, u_zS, u_zD, u_zL, u_zI, u_zB, u_zP, u_zF, u_zA, u_zU, u_zC, u_zR, u_zRZ, u_zRC, u_zRV, u_zT, u_zE, u_zK, u_zY, ho_nid, List.getD_cons_zero, List.getD_cons_succ, List.set_cons_zero, List.set_cons_succ, List.cons_append, List.nil_append, List.take_succ_cons, List.take_zero, Int.reduceToNat, Int.toNat_natCast, nN_0, nN_1, nN_2, nN_3, nN_4, nN_5, nN_6, nN_7, nN_8, nN_9, nN_10, nN_11, nN_12, nN_13, nN_14, nN_15, nN_16, nN_17, nN_18, nN_19, nN_20, nN_21, nN_22, nN_23, nN_24, nN_25, nN_26, nN_27, nN_28, nN_29, nN_30, nN_31, nN_32, nN_33, nN_34, nN_35, nN_36, nN_37, nN_38, nN_39, nN_40, nN_41, nN_42, nN_43, nN_44, nN_45, nN_46, nN_47, nN_48, nN_49, nN_50, nN_51, nN_52, nN_53, nN_54, nR_0_0, nR_0_1, nR_0_2, nR_0_3, nR_0_4, nR_0_5, nR_0_6, nR_0_7, nR_0_8, nR_0_9, nR_0_10, nR_1_0, nR_1_1, nR_1_2, nR_1_3, nR_1_4, nR_2_0, nR_2_1, nR_2_2, nR_2_3, nR_2_4, nR_3_0, nR_3_1, nR_4_2, nR_5_2, nR_6_0, nR_6_1, nR_6_2, nR_7_0, nR_30_2, nR_30_3, nR_30_4, nR_30_6, nR_30_7, nR_30_9, nR_30_10, nR_30_11, nR_30_12, nR_30_13, nR_30_14, nR_30_15, nR_30_16, nR_30_18, nR_30_19, nR_30_20, nR_30_21, nR_30_22, nR_30_23, nR_30_24, nR_30_28, nR_30_29, nR_30_31, sp_isCaption (σ := τ) (show 0 ≤ τ 30 8 by rw [m.2.2.2.2.2]; omega) (show τ 30 8 ≤ 16 by rw [m.2.2.2.2.2]; omega), zlt, zle, zl1, zl2, zl3, z1l, z2l, z3l, z1e, z2e, z3e, z1n, z2n, z3n, z0n, z0e, true_implies, false_implies, and_true, true_and, ho_upE, bI_ne, bI_eq, true_or, or_true]
    simp only [mR_30_2, mR_30_3, mR_30_4, mR_30_6, mR_30_7, mR_30_9, mR_30_10, mR_30_11, mR_30_12, mR_30_13, mR_30_14, mR_30_15, mR_30_16, mR_30_18, mR_30_19, mR_30_20, mR_30_21, mR_30_22, mR_30_23, mR_30_24, mR_30_28, mR_30_29, mR_30_31, mR_0_9, mR_7_0, nN_25, nN_26, nN_27, nN_28, nN_29, nN_30, nN_31, nN_32, nN_33, nN_34, nN_35, nN_36, nN_37, nN_38, nN_39, nN_40, nN_41, nN_42, nN_43, nN_44, nN_45, nN_46, nN_47, nN_48, nN_49, nN_50, nN_51, nN_52, nN_53, nN_54, Int.toNat_natCast, saF, saE, ho_upF, ho_upE, ne_eq, not_false_eq_true, Nat.reduceEqDiff, m.2.2.2.2.2]
    refine ⟨fun _ => ⟨by omega, ?_⟩, fun z => absurd c z⟩
    refine ⟨?_, Inv_sc hj hI0 (sm_up sτ rfl)⟩
    rw [τ54, sτ 37 q rfl]
    exact e
  · simp only [mX6_startByFrames, fX6_startByFrames, u_eC, u_eV, u_eF, u_eR, u_eI, u_eL, u_eB, u_eD, u_eM, u_eU, u_aN, u_aC, u_eK, u_eT, u_cLt, u_cLe, u_cGt, u_cGe, u_cEq, u_cNe, u_cAnd, u_cOr, u_cNot, u_zN, u_zS, u_zD, u_zL, u_zI, u_zB, u_zP, u_zF, u_zA, u_zU, u_zC, u_zR, u_zRZ, u_zRC, u_zRV, u_zT, u_zE, u_zK, u_zY, ho_nid, List.getD_cons_zero, List.getD_cons_succ, List.set_cons_zero, List.set_cons_succ, List.cons_append, List.nil_append, List.take_succ_cons, List.take_zero, Int.reduceToNat, Int.toNat_natCast, nN_0, nN_1, nN_2, nN_3, nN_4, nN_5, nN_6, nN_7, nN_8, nN_9, nN_10, nN_11, nN_12, nN_13, nN_14, nN_15, nN_16, nN_17, nN_18, nN_19, nN_20, nN_21, nN_22, nN_23, nN_24, nN_25, nN_26, nN_27, nN_28, nN_29, nN_30, nN_31, nN_32, nN_33, nN_34, nN_35, nN_36, nN_37, nN_38, nN_39, nN_40, nN_41, nN_42, nN_43, nN_44, nN_45, nN_46, nN_47, nN_48, nN_49, nN_50, nN_51, nN_52, nN_53, nN_54, nR_0_0, nR_0_1, nR_0_2, nR_0_3, nR_0_4, nR_0_5, nR_0_6, nR_0_7, nR_0_8, nR_0_9, nR_0_10, nR_1_0, nR_1_1, nR_1_2, nR_1_3, nR_1_4, nR_2_0, nR_2_1, nR_2_2, nR_2_3, nR_2_4, nR_3_0, nR_3_1, nR_4_2, nR_5_2, nR_6_0, nR_6_1, nR_6_2, nR_7_0, nR_30_2, nR_30_3, nR_30_4, nR_30_6, nR_30_7, nR_30_9, nR_30_10, nR_30_11, nR_30_12, nR_30_13, nR_30_14, nR_30_15, nR_30_16, nR_30_18, nR_30_19, nR_30_20, nR_30_21, nR_30_22, nR_30_23, nR_30_24, nR_30_28, nR_30_29, nR_30_31, sp_needCaption, h1.2.2.2.2.1]
    rw [if_neg c]
    refine ⟨trivial, ?_⟩
    simp only [mX7_startByFrames, fX7_startByFrames, mX7_asksCaption, fX7_asksCaption, u_eC, u_eV, u_eF, u_eR, u_eI, u_eL, u_eB, u_eD, u_eM, u_eU, u_aN, u_aC, u_eK, u_eT, u_cLt, u_cLe, u_cGt, u_cGe, u_cEq, u_cNe, u_cAnd, u_cOr, u_cNot, u_zN, u_zS, u_zD, u_zL, u_zI, u_zB, u_zP, u_zF, u_zA, u_zU, u_zC, u_zR, u_zRZ, u_zRC, u_zRV, u_zT, u_zE, u_zK, u_zY, ho_nid, List.getD_cons_zero, List.getD_cons_succ, List.set_cons_zero, List.set_cons_succ, List.cons_append, List.nil_append, List.take_succ_cons, List.take_zero, Int.reduceToNat, Int.toNat_natCast, nN_0, nN_1, nN_2, nN_3, nN_4, nN_5, nN_6, nN_7, nN_8, nN_9, nN_10, nN_11, nN_12, nN_13, nN_14, nN_15, nN_16, nN_17, nN_18, nN_19, nN_20, nN_21, nN_22, nN_23, nN_24, nN_25, nN_26, nN_27, nN_28, nN_29, nN_30, nN_31, nN_32, nN_33, nN_34, nN_35, nN_36, nN_37, nN_38, nN_39, nN_40, nN_41, nN_42, nN_43, nN_44, nN_45, nN_46, nN_47, nN_48, nN_49, nN_50, nN_51, nN_52, nN_53, nN_54, nR_0_0, nR_0_1, nR_0_2, nR_0_3, nR_0_4, nR_0_5, nR_0_6, nR_0_7, nR_0_8, nR_0_9, nR_0_10, nR_1_0, nR_1_1, nR_1_2, nR_1_3, nR_1_4, nR_2_0, nR_2_1, nR_2_2, nR_2_3, nR_2_4, nR_3_0, nR_3_1, nR_4_2, nR_5_2, nR_6_0, nR_6_1, nR_6_2, nR_7_0, nR_30_2, nR_30_3, nR_30_4, nR_30_6, nR_30_7, nR_30_9, nR_30_10, nR_30_11, nR_30_12, nR_30_13, nR_30_14, nR_30_15, nR_30_16, nR_30_18, nR_30_19, nR_30_20, nR_30_21, nR_30_22, nR_30_23, nR_30_24, nR_30_28, nR_30_29, nR_30_31, sp_isCaption (σ := σ) (show 0 ≤ σ 30 8 by rw [h1.2.2.2.2.2.1]; omega) (show σ 30 8 ≤ 16 by rw [h1.2.2.2.2.2.1]; omega), zlt, zle, zl1, zl2, zl3, z1l, z2l, z3l, z1e, z2e, z3e, z1n, z2n, z3n, z0n, z0e, true_implies, false_implies, and_true, true_and, ho_upE, bI_ne, bI_eq, true_or, or_true, h1.2.2.2.2.2.1]
    exact ⟨fun z => absurd z c, fun _ => Inv_sc hj hI0 (sm_up sm_rf rfl)⟩

theorem op_written {j : Nat} {σ : ho_S} {f t : Int} (hj : j < 512) (hI : hi_Inv j σ) : mX6_written [0, f, t] σ (fun a σ => mX7_written [30, f, t] (ho_up σ 54 0 a) (fun b σ => σ 30 0 = 0 ∧ σ 54 0 = b ∧ hi_Inv (j + 1) σ) (fun _ _ => False)) (fun ec σ => (ec = 0 ∧ mX7_written [30, f, t] σ (fun _ σ => σ 30 0 = 1 ∧ hi_Inv (j + 1) σ) (fun _ _ => False)) ∨ (ec = 2 ∧ mX7_written [30, f, t] σ (fun _ σ => σ 30 0 = 2 ∧ hi_Inv (j + 1) σ) (fun _ _ => False))) := by
  have hI0 := hI
  obtain ⟨_, S, N, M, h1, h2, h3, h4, h5, h6, h7, h8, h9, h10, h11, h12, h13⟩ := hI
  have hM := h1.2.2.2.2.2.2
  have hN : N ≤ 4800 := by have := h2.1; have := h2.2.1; omega
  have thr1 : ¬ (0 ≤ f ∧ f ≤ 1) → mX7_written [30, f, t] σ (fun _ σ => σ 30 0 = 1 ∧ hi_Inv (j + 1) σ) (fun _ _ => False) := by
    intro z
    simp only [mX7_written, fX7_written, u_eC, u_eV, u_eF, u_eR, u_eI, u_eL, u_eB, u_eD, u_eM, u_eU, u_aN, u_aC, u_eK, u_eT, u_cLt, u_cLe, u_cGt, u_cGe, u_cEq, u_cNe, u_cAnd, u_cOr, u_cNot, u_zN, u_zS, u_zD, u_zL, u_zI, u_zB, u_zP, u_zF, u_zA, u_zU, u_zC, u_zR, u_zRZ, u_zRC, u_zRV, u_zT, u_zE, u_zK, u_zY, ho_nid, List.getD_cons_zero, List.getD_cons_succ, List.set_cons_zero, List.set_cons_succ, List.cons_append, List.nil_append, List.take_succ_cons, List.take_zero, Int.reduceToNat, Int.toNat_natCast, nN_0, nN_1, nN_2, nN_3, nN_4, nN_5, nN_6, nN_7, nN_8, nN_9, nN_10, nN_11, nN_12, nN_13, nN_14, nN_15, nN_16, nN_17, nN_18, nN_19, nN_20, nN_21, nN_22, nN_23, nN_24, nN_25, nN_26, nN_27, nN_28, nN_29, nN_30, nN_31, nN_32, nN_33, nN_34, nN_35, nN_36, nN_37, nN_38, nN_39, nN_40, nN_41, nN_42, nN_43, nN_44, nN_45, nN_46, nN_47, nN_48, nN_49, nN_50, nN_51, nN_52, nN_53, nN_54, nR_0_0, nR_0_1, nR_0_2, nR_0_3, nR_0_4, nR_0_5, nR_0_6, nR_0_7, nR_0_8, nR_0_9, nR_0_10, nR_1_0, nR_1_1, nR_1_2, nR_1_3, nR_1_4, nR_2_0, nR_2_1, nR_2_2, nR_2_3, nR_2_4, nR_3_0, nR_3_1, nR_4_2, nR_5_2, nR_6_0, nR_6_1, nR_6_2, nR_7_0, nR_30_2, nR_30_3, nR_30_4, nR_30_6, nR_30_7, nR_30_9, nR_30_10, nR_30_11, nR_30_12, nR_30_13, nR_30_14, nR_30_15, nR_30_16, nR_30_18, nR_30_19, nR_30_20, nR_30_21, nR_30_22, nR_30_23, nR_30_24, nR_30_28, nR_30_29, nR_30_31, sp_in, zlt, zle, zl1, zl2, zl3, z1l, z2l, z3l, z1e, z2e, z3e, z1n, z2n, z3n, z0n, z0e, true_implies, false_implies, and_true, true_and, ho_upE, bI_ne, bI_eq, true_or, or_true]
    exact ⟨fun y => absurd y z, fun _ => Inv_sc hj hI0 (sm_up sm_rf rfl)⟩
  have thr2 : (0 ≤ f ∧ f ≤ 1) → ¬ (0 ≤ t ∧ t < 3) → mX7_written [30, f, t] σ (fun _ σ => σ 30 0 = 2 ∧ hi_Inv (j + 1) σ) (fun _ _ => False) := by
    intro y z
    simp only [mX7_written, fX7_written, u_eC, u_eV, u_eF, u_eR, u_eI, u_eL, u_eB, u_eD, u_eM, u_eU, u_aN, u_aC, u_eK, u_eT, u_cLt, u_cLe, u_cGt, u_cGe, u_cEq, u_cNe, u_cAnd, u_cOr, u_cNot, u_zN, u_zS, u_zD, u_zL, u_zI, u_zB, u_zP, u_zF, u_zA, u_zU, u_zC, u_zR, u_zRZ, u_zRC, u_zRV, u_zT, u_zE, u_zK, u_zY, ho_nid, List.getD_cons_zero, List.getD_cons_succ, List.set_cons_zero, List.set_cons_succ, List.cons_append, List.nil_append, List.take_succ_cons, List.take_zero, Int.reduceToNat, Int.toNat_natCast, nN_0, nN_1, nN_2, nN_3, nN_4, nN_5, nN_6, nN_7, nN_8, nN_9, nN_10, nN_11, nN_12, nN_13, nN_14, nN_15, nN_16, nN_17, nN_18, nN_19, nN_20, nN_21, nN_22, nN_23, nN_24, nN_25, nN_26, nN_27, nN_28, nN_29, nN_30, nN_31, nN_32, nN_33, nN_34, nN_35, nN_36, nN_37, nN_38, nN_39, nN_40, nN_41, nN_42, nN_43, nN_44, nN_45, nN_46, nN_47, nN_48, nN_49, nN_50, nN_51, nN_52, nN_53, nN_54, nR_0_0, nR_0_1, nR_0_2, nR_0_3, nR_0_4, nR_0_5, nR_0_6, nR_0_7, nR_0_8, nR_0_9, nR_0_10, nR_1_0, nR_1_1, nR_1_2, nR_1_3, nR_1_4, nR_2_0, nR_2_1, nR_2_2, nR_2_3, nR_2_4, nR_3_0, nR_3_1, nR_4_2, nR_5_2, nR_6_0, nR_6_1, nR_6_2, nR_7_0, nR_30_2, nR_30_3, nR_30_4, nR_30_6, nR_30_7, nR_30_9, nR_30_10, nR_30_11, nR_30_12, nR_30_13, nR_30_14, nR_30_15, nR_30_16, nR_30_18, nR_30_19, nR_30_20, nR_30_21, nR_30_22, nR_30_23, nR_30_24, nR_30_28, nR_30_29, nR_30_31, sp_in, zlt, zle, zl1, zl2, zl3, z1l, z2l, z3l, z1e, z2e, z3e, z1n, z2n, z3n, z0n, z0e, true_implies, false_implies, and_true, true_and, ho_upE, bI_ne, bI_eq, true_or, or_true]
    exact ⟨fun _ => ⟨fun w => absurd w (by omega), fun _ => Inv_sc hj hI0 (sm_up sm_rf rfl)⟩, fun w => absurd y w⟩
  have pages : ∀ t' : Nat, t = (t' : Int) → t' < 3 → ∃ U : List Int, (∀ (Q : ho_K) (X : ho_X), (∀ σ', sm pSc σ σ' → PG σ' U → U.length ≤ 2400 → Q 0 σ') → mX6_writeAll [0, f, (t' : Int)] σ Q X) ∧ (∀ (τ : ho_S) (Q : ho_K) (X : ho_X), sm pSc σ τ → (∀ σ', sm pMA τ σ' → OT σ' U → Q 0 σ') → mX7_writesAll [30, f, (t' : Int)] τ Q X) := by
    intro t' ht' ht3
    have hz : ∀ x, x < 48 → ∃ n T, TXT σ x n T ∧ SG T n := fun x hx => by
      obtain ⟨n, T, a, b, d⟩ := GX_TXT h8 hx
      exact ⟨n, T, a, d⟩
    have od : ∀ k : Nat, cap (σ 37) M (k : Int) M = -1 ∨ ∃ c : Nat, cap (σ 37) M (k : Int) M = (c : Int) ∧ c < M := fun k => by
      rcases cap_rg (st := σ 37) (M := M) (p := (k : Int)) M with a | ⟨c, a, b, _⟩
      · exact Or.inl a
      · exact Or.inr ⟨c, b, a⟩
    refine ⟨(allU (decide (f ≠ 0)) (fun k => cap (σ 37) M (k : Int) M) (tv (σ 42) (σ 41)) (σ 37) (σ 38) (σ 36) (σ 30 25) t' M).2, fun Q X hQ => ?_, fun τ Q X sτ hQ => ?_⟩
    · refine sp_writeAll ht3 h1.2.2.2.2.1 hM hz (GT_TM h6).2 hN (fun σ' s' P' l' => hQ σ' (sm_w s' pSc_wa) ?_ ?_)
      all_goals have e := allU_congr (fmt := decide (f ≠ 0)) (od := fun k => cap (σ 37) M (k : Int) M) (od' := fun k => cap (σ 13) M (k : Int) M) (tt := tv (σ 42) (σ 41)) (tt' := tv (σ 18) (σ 19)) (st := σ 37) (ln := σ 38) (lk := σ 36) (st' := σ 13) (ln' := σ 14) (lk' := σ 26) (W := σ 30 25) (t := t') (M := M) ht3 hM (fun k => cap_congr (fun c hc => (h6.1 c hc).1.symm) M (Nat.le_refl _)) od (fun x hx => (h8.2.2.1 x hx).symm) (fun c hc => ⟨(h6.1 c hc).1.symm, (h6.1 c hc).2.1.symm, (h7 c (by omega)).1.symm⟩) M
      · rw [e, ← h13.1]
        exact P'
      · rw [e, ← h13.1]
        exact l'
    · have e37 : τ 37 = σ 37 := sm_fn sτ 37 (fun _ => rfl)
      have e38 : τ 38 = σ 38 := sm_fn sτ 38 (fun _ => rfl)
      have e36 : τ 36 = σ 36 := sm_fn sτ 36 (fun _ => rfl)
      have e41 : τ 41 = σ 41 := sm_fn sτ 41 (fun _ => rfl)
      have e42 : τ 42 = σ 42 := sm_fn sτ 42 (fun _ => rfl)
      have e25 : τ 30 25 = σ 30 25 := sτ 30 25 rfl
      refine sp_writesAll (N := N) ht3 (mGS h1 sτ).2.2.2.2.2 hM (fun x hx => ?_) (by rw [e37, e38]; exact (GT_TM h6).1) hN (by rw [e36]; exact fun c hc => (h7 c (by omega)).2.2) (fun σ' s' P' => hQ σ' s' ?_)
      · obtain ⟨n, T, a, b, d⟩ := GX_TXT h8 hx
        exact ⟨n, T, MTX_sm b sτ (fun _ => rfl) (fun _ => rfl), d⟩
      · rw [e37, e38, e36, e41, e42, e25] at P'
        exact P'
  simp only [mX6_written, fX6_written, u_eC, u_eV, u_eF, u_eR, u_eI, u_eL, u_eB, u_eD, u_eM, u_eU, u_aN, u_aC, u_eK, u_eT, u_cLt, u_cLe, u_cGt, u_cGe, u_cEq, u_cNe, u_cAnd, u_cOr, u_cNot, u_zN, u_zS, u_zD, u_zL, u_zI, u_zB, u_zP, u_zF, u_zA, u_zU, u_zC, u_zR, u_zRZ, u_zRC, u_zRV, u_zT, u_zE, u_zK, u_zY, ho_nid, List.getD_cons_zero, List.getD_cons_succ, List.set_cons_zero, List.set_cons_succ, List.cons_append, List.nil_append, List.take_succ_cons, List.take_zero, Int.reduceToNat, Int.toNat_natCast, nN_0, nN_1, nN_2, nN_3, nN_4, nN_5, nN_6, nN_7, nN_8, nN_9, nN_10, nN_11, nN_12, nN_13, nN_14, nN_15, nN_16, nN_17, nN_18, nN_19, nN_20, nN_21, nN_22, nN_23, nN_24, nN_25, nN_26, nN_27, nN_28, nN_29, nN_30, nN_31, nN_32, nN_33, nN_34, nN_35, nN_36, nN_37, nN_38, nN_39, nN_40, nN_41, nN_42, nN_43, nN_44, nN_45, nN_46, nN_47, nN_48, nN_49, nN_50, nN_51, nN_52, nN_53, nN_54, nR_0_0, nR_0_1, nR_0_2, nR_0_3, nR_0_4, nR_0_5, nR_0_6, nR_0_7, nR_0_8, nR_0_9, nR_0_10, nR_1_0, nR_1_1, nR_1_2, nR_1_3, nR_1_4, nR_2_0, nR_2_1, nR_2_2, nR_2_3, nR_2_4, nR_3_0, nR_3_1, nR_4_2, nR_5_2, nR_6_0, nR_6_1, nR_6_2, nR_7_0, nR_30_2, nR_30_3, nR_30_4, nR_30_6, nR_30_7, nR_30_9, nR_30_10, nR_30_11, nR_30_12, nR_30_13, nR_30_14, nR_30_15, nR_30_16, nR_30_18, nR_30_19, nR_30_20, nR_30_21, nR_30_22, nR_30_23, nR_30_24, nR_30_28, nR_30_29, nR_30_31, sp_needFormat, sp_needTongue]
  by_cases cf : 0 ≤ f ∧ f ≤ 1
  · rw [if_pos cf]
    by_cases ct : 0 ≤ t ∧ t < 3
    · rw [if_pos ct]
      obtain ⟨t, rfl⟩ : ∃ y : Nat, t = (y : Int) := ⟨t.toNat, by omega⟩
      obtain ⟨U, u1, u2⟩ := pages t rfl (by omega)
      refine u1 _ _ (fun σ1 s1 P1 _ => ?_)
      simp only [mX3_length, fX3_length, u_eC, u_eV, u_eF, u_eR, u_eI, u_eL, u_eB, u_eD, u_eM, u_eU, u_aN, u_aC, u_eK, u_eT, u_cLt, u_cLe, u_cGt, u_cGe, u_cEq, u_cNe, u_cAnd, u_cOr, u_cNot, u_zN, u_zS, u_zD, u_zL, u_zI, u_zB, u_zP, u_zF, u_zA, u_zU, u_zC, u_zR, u_zRZ, u_zRC, u_zRV, u_zT, u_zE, u_zK, u_zY, ho_nid, List.getD_cons_zero, List.getD_cons_succ, List.set_cons_zero, List.set_cons_succ, List.cons_append, List.nil_append, List.take_succ_cons, List.take_zero, Int.reduceToNat, Int.toNat_natCast, nN_0, nN_1, nN_2, nN_3, nN_4, nN_5, nN_6, nN_7, nN_8, nN_9, nN_10, nN_11, nN_12, nN_13, nN_14, nN_15, nN_16, nN_17, nN_18, nN_19, nN_20, nN_21, nN_22, nN_23, nN_24, nN_25, nN_26, nN_27, nN_28, nN_29, nN_30, nN_31, nN_32, nN_33, nN_34, nN_35, nN_36, nN_37, nN_38, nN_39, nN_40, nN_41, nN_42, nN_43, nN_44, nN_45, nN_46, nN_47, nN_48, nN_49, nN_50, nN_51, nN_52, nN_53, nN_54, nR_0_0, nR_0_1, nR_0_2, nR_0_3, nR_0_4, nR_0_5, nR_0_6, nR_0_7, nR_0_8, nR_0_9, nR_0_10, nR_1_0, nR_1_1, nR_1_2, nR_1_3, nR_1_4, nR_2_0, nR_2_1, nR_2_2, nR_2_3, nR_2_4, nR_3_0, nR_3_1, nR_4_2, nR_5_2, nR_6_0, nR_6_1, nR_6_2, nR_7_0, nR_30_2, nR_30_3, nR_30_4, nR_30_6, nR_30_7, nR_30_9, nR_30_10, nR_30_11, nR_30_12, nR_30_13, nR_30_14, nR_30_15, nR_30_16, nR_30_18, nR_30_19, nR_30_20, nR_30_21, nR_30_22, nR_30_23, nR_30_24, nR_30_28, nR_30_29, nR_30_31, (show ho_R 0 6 = 7 from rfl), P1.1]
      refine tau (fun τ sτ1 τ54 eτ => ?_)
      have sτ := sm_tr s1 sτ1
      simp only [mX7_written, fX7_written, u_eC, u_eV, u_eF, u_eR, u_eI, u_eL, u_eB, u_eD, u_eM, u_eU, u_aN, u_aC, u_eK, u_eT, u_cLt, u_cLe, u_cGt, u_cGe, u_cEq, u_cNe, u_cAnd, u_cOr, u_cNot, u_zN, u_zS, u_zD, u_zL, u_zI, u_zB, u_zP, u_zF, u_zA, u_zU, u_zC, u_zR, u_zRZ, u_zRC, u_zRV, u_zT, u_zE, u_zK, u_zY, ho_nid, List.getD_cons_zero, List.getD_cons_succ, List.set_cons_zero, List.set_cons_succ, List.cons_append, List.nil_append, List.take_succ_cons, List.take_zero, Int.reduceToNat, Int.toNat_natCast, nN_0, nN_1, nN_2, nN_3, nN_4, nN_5, nN_6, nN_7, nN_8, nN_9, nN_10, nN_11, nN_12, nN_13, nN_14, nN_15, nN_16, nN_17, nN_18, nN_19, nN_20, nN_21, nN_22, nN_23, nN_24, nN_25, nN_26, nN_27, nN_28, nN_29, nN_30, nN_31, nN_32, nN_33, nN_34, nN_35, nN_36, nN_37, nN_38, nN_39, nN_40, nN_41, nN_42, nN_43, nN_44, nN_45, nN_46, nN_47, nN_48, nN_49, nN_50, nN_51, nN_52, nN_53, nN_54, nR_0_0, nR_0_1, nR_0_2, nR_0_3, nR_0_4, nR_0_5, nR_0_6, nR_0_7, nR_0_8, nR_0_9, nR_0_10, nR_1_0, nR_1_1, nR_1_2, nR_1_3, nR_1_4, nR_2_0, nR_2_1, nR_2_2, nR_2_3, nR_2_4, nR_3_0, nR_3_1, nR_4_2, nR_5_2, nR_6_0, nR_6_1, nR_6_2, nR_7_0, nR_30_2, nR_30_3, nR_30_4, nR_30_6, nR_30_7, nR_30_9, nR_30_10, nR_30_11, nR_30_12, nR_30_13, nR_30_14, nR_30_15, nR_30_16, nR_30_18, nR_30_19, nR_30_20, nR_30_21, nR_30_22, nR_30_23, nR_30_24, nR_30_28, nR_30_29, nR_30_31, sp_in, zlt, zle, zl1, zl2, zl3, z1l, z2l, z3l, z1e, z2e, z3e, z1n, z2n, z3n, z0n, z0e, true_implies, false_implies, and_true, true_and, ho_upE, bI_ne, bI_eq, true_or, or_true]
      have st0 : sm pSc σ (ho_up τ 30 0 0) := sm_up sτ rfl
      refine ⟨fun _ => ⟨fun _ => ?_, fun w => absurd (show 0 ≤ (t : Int) ∧ (t : Int) ≤ 2 by omega) w⟩, fun w => absurd cf w⟩
      refine u2 (ho_up τ 30 0 0) _ _ st0 (fun σ2 s2 P2 => ?_)
      rw [P2.1]
      exact ⟨(s2 30 0 rfl).trans ho_upE, (s2 54 0 rfl).trans τ54, Inv_sc hj hI0 (sm_tr st0 (sm_w s2 pSc_ma))⟩
    · rw [if_neg ct]
      exact Or.inr ⟨by trivial, thr2 cf ct⟩
  · rw [if_neg cf]
    exact Or.inl ⟨by trivial, thr1 cf⟩

theorem nc_rng : ∀ u : Int, 0 ≤ ho_nc u ∧ ho_nc u < 65536 := by
  intro u
  show 0 ≤ (vp_nar .char (Int32.ofInt u)).toInt ∧ (vp_nar .char (Int32.ofInt u)).toInt < 65536
  rw [vp_nar_char]
  generalize (Int32.ofInt u).toUInt32.toUInt16 = y
  have h : (y.toUInt32.toInt32.toBitVec).toNat < 65536 := by
    show (y.toBitVec.setWidth 32).toNat < 65536
    rw [BitVec.toNat_setWidth]
    have := y.toBitVec.isLt
    omega
  have e : y.toUInt32.toInt32.toInt = (y.toUInt32.toInt32.toBitVec.toNat : Int) := bt_int (by omega)
  rw [e]
  omega

theorem op_writtenChar {j : Nat} {σ : ho_S} {f t i : Int} (hj : j < 512) (hI : hi_Inv j σ) : mX6_writtenChar [0, f, t, i] σ (fun a σ => mX7_writtenChar [30, f, t, i] (ho_up σ 54 0 a) (fun b σ => σ 30 0 = 0 ∧ σ 54 0 = b ∧ hi_Inv (j + 1) σ) (fun _ _ => False)) (fun ec σ => (ec = 0 ∧ mX7_writtenChar [30, f, t, i] σ (fun _ σ => σ 30 0 = 1 ∧ hi_Inv (j + 1) σ) (fun _ _ => False)) ∨ (ec = 2 ∧ mX7_writtenChar [30, f, t, i] σ (fun _ σ => σ 30 0 = 2 ∧ hi_Inv (j + 1) σ) (fun _ _ => False))) := by
  have hI0 := hI
  obtain ⟨_, S, N, M, h1, h2, h3, h4, h5, h6, h7, h8, h9, h10, h11, h12, h13⟩ := hI
  have hM := h1.2.2.2.2.2.2
  have hN : N ≤ 4800 := by have := h2.1; have := h2.2.1; omega
  have thr1 : ¬ (0 ≤ f ∧ f ≤ 1) → mX7_writtenChar [30, f, t, i] σ (fun _ σ => σ 30 0 = 1 ∧ hi_Inv (j + 1) σ) (fun _ _ => False) := by
    intro z
    simp only [mX7_writtenChar, fX7_writtenChar, u_eC, u_eV, u_eF, u_eR, u_eI, u_eL, u_eB, u_eD, u_eM, u_eU, u_aN, u_aC, u_eK, u_eT, u_cLt, u_cLe, u_cGt, u_cGe, u_cEq, u_cNe, u_cAnd, u_cOr, u_cNot, u_zN, u_zS, u_zD, u_zL, u_zI, u_zB, u_zP, u_zF, u_zA, u_zU, u_zC, u_zR, u_zRZ, u_zRC, u_zRV, u_zT, u_zE, u_zK, u_zY, ho_nid, List.getD_cons_zero, List.getD_cons_succ, List.set_cons_zero, List.set_cons_succ, List.cons_append, List.nil_append, List.take_succ_cons, List.take_zero, Int.reduceToNat, Int.toNat_natCast, nN_0, nN_1, nN_2, nN_3, nN_4, nN_5, nN_6, nN_7, nN_8, nN_9, nN_10, nN_11, nN_12, nN_13, nN_14, nN_15, nN_16, nN_17, nN_18, nN_19, nN_20, nN_21, nN_22, nN_23, nN_24, nN_25, nN_26, nN_27, nN_28, nN_29, nN_30, nN_31, nN_32, nN_33, nN_34, nN_35, nN_36, nN_37, nN_38, nN_39, nN_40, nN_41, nN_42, nN_43, nN_44, nN_45, nN_46, nN_47, nN_48, nN_49, nN_50, nN_51, nN_52, nN_53, nN_54, nR_0_0, nR_0_1, nR_0_2, nR_0_3, nR_0_4, nR_0_5, nR_0_6, nR_0_7, nR_0_8, nR_0_9, nR_0_10, nR_1_0, nR_1_1, nR_1_2, nR_1_3, nR_1_4, nR_2_0, nR_2_1, nR_2_2, nR_2_3, nR_2_4, nR_3_0, nR_3_1, nR_4_2, nR_5_2, nR_6_0, nR_6_1, nR_6_2, nR_7_0, nR_30_2, nR_30_3, nR_30_4, nR_30_6, nR_30_7, nR_30_9, nR_30_10, nR_30_11, nR_30_12, nR_30_13, nR_30_14, nR_30_15, nR_30_16, nR_30_18, nR_30_19, nR_30_20, nR_30_21, nR_30_22, nR_30_23, nR_30_24, nR_30_28, nR_30_29, nR_30_31, sp_in, zlt, zle, zl1, zl2, zl3, z1l, z2l, z3l, z1e, z2e, z3e, z1n, z2n, z3n, z0n, z0e, true_implies, false_implies, and_true, true_and, ho_upE, bI_ne, bI_eq, true_or, or_true]
    exact ⟨fun y => absurd y z, fun _ => ⟨by omega, Inv_sc hj hI0 (sm_up sm_rf rfl)⟩⟩
  have thr2 : (0 ≤ f ∧ f ≤ 1) → ¬ (0 ≤ t ∧ t < 3) → mX7_writtenChar [30, f, t, i] σ (fun _ σ => σ 30 0 = 2 ∧ hi_Inv (j + 1) σ) (fun _ _ => False) := by
    intro y z
    simp only [mX7_writtenChar, fX7_writtenChar, u_eC, u_eV, u_eF, u_eR, u_eI, u_eL, u_eB, u_eD, u_eM, u_eU, u_aN, u_aC, u_eK, u_eT, u_cLt, u_cLe, u_cGt, u_cGe, u_cEq, u_cNe, u_cAnd, u_cOr, u_cNot, u_zN, u_zS, u_zD, u_zL, u_zI, u_zB, u_zP, u_zF, u_zA, u_zU, u_zC, u_zR, u_zRZ, u_zRC, u_zRV, u_zT, u_zE, u_zK, u_zY, ho_nid, List.getD_cons_zero, List.getD_cons_succ, List.set_cons_zero, List.set_cons_succ, List.cons_append, List.nil_append, List.take_succ_cons, List.take_zero, Int.reduceToNat, Int.toNat_natCast, nN_0, nN_1, nN_2, nN_3, nN_4, nN_5, nN_6, nN_7, nN_8, nN_9, nN_10, nN_11, nN_12, nN_13, nN_14, nN_15, nN_16, nN_17, nN_18, nN_19, nN_20, nN_21, nN_22, nN_23, nN_24, nN_25, nN_26, nN_27, nN_28, nN_29, nN_30, nN_31, nN_32, nN_33, nN_34, nN_35, nN_36, nN_37, nN_38, nN_39, nN_40, nN_41, nN_42, nN_43, nN_44, nN_45, nN_46, nN_47, nN_48, nN_49, nN_50, nN_51, nN_52, nN_53, nN_54, nR_0_0, nR_0_1, nR_0_2, nR_0_3, nR_0_4, nR_0_5, nR_0_6, nR_0_7, nR_0_8, nR_0_9, nR_0_10, nR_1_0, nR_1_1, nR_1_2, nR_1_3, nR_1_4, nR_2_0, nR_2_1, nR_2_2, nR_2_3, nR_2_4, nR_3_0, nR_3_1, nR_4_2, nR_5_2, nR_6_0, nR_6_1, nR_6_2, nR_7_0, nR_30_2, nR_30_3, nR_30_4, nR_30_6, nR_30_7, nR_30_9, nR_30_10, nR_30_11, nR_30_12, nR_30_13, nR_30_14, nR_30_15, nR_30_16, nR_30_18, nR_30_19, nR_30_20, nR_30_21, nR_30_22, nR_30_23, nR_30_24, nR_30_28, nR_30_29, nR_30_31, sp_in, zlt, zle, zl1, zl2, zl3, z1l, z2l, z3l, z1e, z2e, z3e, z1n, z2n, z3n, z0n, z0e, true_implies, false_implies, and_true, true_and, ho_upE, bI_ne, bI_eq, true_or, or_true]
    exact ⟨fun _ => ⟨fun w => absurd w (by omega), fun _ => ⟨by omega, Inv_sc hj hI0 (sm_up sm_rf rfl)⟩⟩, fun w => absurd y w⟩
  have pages : ∀ t' : Nat, t = (t' : Int) → t' < 3 → ∃ U : List Int, (∀ (Q : ho_K) (X : ho_X), (∀ σ', sm pSc σ σ' → PG σ' U → U.length ≤ 2400 → Q 0 σ') → mX6_writeAll [0, f, (t' : Int)] σ Q X) ∧ (∀ (τ : ho_S) (Q : ho_K) (X : ho_X), sm pSc σ τ → (∀ σ', sm pMA τ σ' → OT σ' U → Q 0 σ') → mX7_writesAll [30, f, (t' : Int)] τ Q X) := by
    intro t' ht' ht3
    have hz : ∀ x, x < 48 → ∃ n T, TXT σ x n T ∧ SG T n := fun x hx => by
      obtain ⟨n, T, a, b, d⟩ := GX_TXT h8 hx
      exact ⟨n, T, a, d⟩
    have od : ∀ k : Nat, cap (σ 37) M (k : Int) M = -1 ∨ ∃ c : Nat, cap (σ 37) M (k : Int) M = (c : Int) ∧ c < M := fun k => by
      rcases cap_rg (st := σ 37) (M := M) (p := (k : Int)) M with a | ⟨c, a, b, _⟩
      · exact Or.inl a
      · exact Or.inr ⟨c, b, a⟩
    refine ⟨(allU (decide (f ≠ 0)) (fun k => cap (σ 37) M (k : Int) M) (tv (σ 42) (σ 41)) (σ 37) (σ 38) (σ 36) (σ 30 25) t' M).2, fun Q X hQ => ?_, fun τ Q X sτ hQ => ?_⟩
    · refine sp_writeAll ht3 h1.2.2.2.2.1 hM hz (GT_TM h6).2 hN (fun σ' s' P' l' => hQ σ' (sm_w s' pSc_wa) ?_ ?_)
      all_goals have e := allU_congr (fmt := decide (f ≠ 0)) (od := fun k => cap (σ 37) M (k : Int) M) (od' := fun k => cap (σ 13) M (k : Int) M) (tt := tv (σ 42) (σ 41)) (tt' := tv (σ 18) (σ 19)) (st := σ 37) (ln := σ 38) (lk := σ 36) (st' := σ 13) (ln' := σ 14) (lk' := σ 26) (W := σ 30 25) (t := t') (M := M) ht3 hM (fun k => cap_congr (fun c hc => (h6.1 c hc).1.symm) M (Nat.le_refl _)) od (fun x hx => (h8.2.2.1 x hx).symm) (fun c hc => ⟨(h6.1 c hc).1.symm, (h6.1 c hc).2.1.symm, (h7 c (by omega)).1.symm⟩) M
      · rw [e, ← h13.1]
        exact P'
      · rw [e, ← h13.1]
        exact l'
    · have e37 : τ 37 = σ 37 := sm_fn sτ 37 (fun _ => rfl)
      have e38 : τ 38 = σ 38 := sm_fn sτ 38 (fun _ => rfl)
      have e36 : τ 36 = σ 36 := sm_fn sτ 36 (fun _ => rfl)
      have e41 : τ 41 = σ 41 := sm_fn sτ 41 (fun _ => rfl)
      have e42 : τ 42 = σ 42 := sm_fn sτ 42 (fun _ => rfl)
      have e25 : τ 30 25 = σ 30 25 := sτ 30 25 rfl
      refine sp_writesAll (N := N) ht3 (mGS h1 sτ).2.2.2.2.2 hM (fun x hx => ?_) (by rw [e37, e38]; exact (GT_TM h6).1) hN (by rw [e36]; exact fun c hc => (h7 c (by omega)).2.2) (fun σ' s' P' => hQ σ' s' ?_)
      · obtain ⟨n, T, a, b, d⟩ := GX_TXT h8 hx
        exact ⟨n, T, MTX_sm b sτ (fun _ => rfl) (fun _ => rfl), d⟩
      · rw [e37, e38, e36, e41, e42, e25] at P'
        exact P'
  have nc_rg : ∀ u : Int, 0 ≤ ho_nc u ∧ ho_nc u < 65536 := nc_rng
  simp only [mX6_writtenChar, fX6_writtenChar, u_eC, u_eV, u_eF, u_eR, u_eI, u_eL, u_eB, u_eD, u_eM, u_eU, u_aN, u_aC, u_eK, u_eT, u_cLt, u_cLe, u_cGt, u_cGe, u_cEq, u_cNe, u_cAnd, u_cOr, u_cNot, u_zN, u_zS, u_zD, u_zL, u_zI, u_zB, u_zP, u_zF, u_zA, u_zU, u_zC, u_zR, u_zRZ, u_zRC, u_zRV, u_zT, u_zE, u_zK, u_zY, ho_nid, List.getD_cons_zero, List.getD_cons_succ, List.set_cons_zero, List.set_cons_succ, List.cons_append, List.nil_append, List.take_succ_cons, List.take_zero, Int.reduceToNat, Int.toNat_natCast, nN_0, nN_1, nN_2, nN_3, nN_4, nN_5, nN_6, nN_7, nN_8, nN_9, nN_10, nN_11, nN_12, nN_13, nN_14, nN_15, nN_16, nN_17, nN_18, nN_19, nN_20, nN_21, nN_22, nN_23, nN_24, nN_25, nN_26, nN_27, nN_28, nN_29, nN_30, nN_31, nN_32, nN_33, nN_34, nN_35, nN_36, nN_37, nN_38, nN_39, nN_40, nN_41, nN_42, nN_43, nN_44, nN_45, nN_46, nN_47, nN_48, nN_49, nN_50, nN_51, nN_52, nN_53, nN_54, nR_0_0, nR_0_1, nR_0_2, nR_0_3, nR_0_4, nR_0_5, nR_0_6, nR_0_7, nR_0_8, nR_0_9, nR_0_10, nR_1_0, nR_1_1, nR_1_2, nR_1_3, nR_1_4, nR_2_0, nR_2_1, nR_2_2, nR_2_3, nR_2_4, nR_3_0, nR_3_1, nR_4_2, nR_5_2, nR_6_0, nR_6_1, nR_6_2, nR_7_0, nR_30_2, nR_30_3, nR_30_4, nR_30_6, nR_30_7, nR_30_9, nR_30_10, nR_30_11, nR_30_12, nR_30_13, nR_30_14, nR_30_15, nR_30_16, nR_30_18, nR_30_19, nR_30_20, nR_30_21, nR_30_22, nR_30_23, nR_30_24, nR_30_28, nR_30_29, nR_30_31, sp_needFormat, sp_needTongue]
  by_cases cf : 0 ≤ f ∧ f ≤ 1
  · rw [if_pos cf]
    by_cases ct : 0 ≤ t ∧ t < 3
    · rw [if_pos ct]
      obtain ⟨t, rfl⟩ : ∃ y : Nat, t = (y : Int) := ⟨t.toNat, by omega⟩
      obtain ⟨U, u1, u2⟩ := pages t rfl (by omega)
      have model : ∀ (τ : ho_S) (Q : ho_K), sm pSc σ τ → (∀ σ2, sm pSc σ σ2 → σ2 54 = τ 54 → U.length < 6000 → ((¬ (0 ≤ i ∧ i < (U.length : Int)) → Q 32 (ho_up σ2 30 0 2)) ∧ (∀ (w : Nat) (u : Int), i = (w : Int) → U[w]? = some u → Q (ho_nc (ho_oi2c u)) (ho_up σ2 30 0 0)))) → U.length < 6000 → mX7_writtenChar [30, f, (t : Int), i] τ Q (fun _ _ => False) := by
        intro τ Q sτ hQ hU
        simp only [mX7_writtenChar, fX7_writtenChar, u_eC, u_eV, u_eF, u_eR, u_eI, u_eL, u_eB, u_eD, u_eM, u_eU, u_aN, u_aC, u_eK, u_eT, u_cLt, u_cLe, u_cGt, u_cGe, u_cEq, u_cNe, u_cAnd, u_cOr, u_cNot, u_zN, u_zS, u_zD, u_zL, u_zI, u_zB, u_zP, u_zF, u_zA, u_zU, u_zC, u_zR, u_zRZ, u_zRC, u_zRV, u_zT, u_zE, u_zK, u_zY, ho_nid, List.getD_cons_zero, List.getD_cons_succ, List.set_cons_zero, List.set_cons_succ, List.cons_append, List.nil_append, List.take_succ_cons, List.take_zero, Int.reduceToNat, Int.toNat_natCast, nN_0, nN_1, nN_2, nN_3, nN_4, nN_5, nN_6, nN_7, nN_8, nN_9, nN_10, nN_11, nN_12, nN_13, nN_14, nN_15, nN_16, nN_17, nN_18, nN_19, nN_20, nN_21, nN_22, nN_23, nN_24, nN_25, nN_26, nN_27, nN_28, nN_29, nN_30, nN_31, nN_32, nN_33, nN_34, nN_35, nN_36, nN_37, nN_38, nN_39, nN_40, nN_41, nN_42, nN_43, nN_44, nN_45, nN_46, nN_47, nN_48, nN_49, nN_50, nN_51, nN_52, nN_53, nN_54, nR_0_0, nR_0_1, nR_0_2, nR_0_3, nR_0_4, nR_0_5, nR_0_6, nR_0_7, nR_0_8, nR_0_9, nR_0_10, nR_1_0, nR_1_1, nR_1_2, nR_1_3, nR_1_4, nR_2_0, nR_2_1, nR_2_2, nR_2_3, nR_2_4, nR_3_0, nR_3_1, nR_4_2, nR_5_2, nR_6_0, nR_6_1, nR_6_2, nR_7_0, nR_30_2, nR_30_3, nR_30_4, nR_30_6, nR_30_7, nR_30_9, nR_30_10, nR_30_11, nR_30_12, nR_30_13, nR_30_14, nR_30_15, nR_30_16, nR_30_18, nR_30_19, nR_30_20, nR_30_21, nR_30_22, nR_30_23, nR_30_24, nR_30_28, nR_30_29, nR_30_31, sp_in, zlt, zle, zl1, zl2, zl3, z1l, z2l, z3l, z1e, z2e, z3e, z1n, z2n, z3n, z0n, z0e, true_implies, false_implies, and_true, true_and, ho_upE, bI_ne, bI_eq, true_or, or_true]
        have st0 : sm pSc σ (ho_up τ 30 0 0) := sm_up sτ rfl
        refine ⟨fun _ => ⟨fun _ => ?_, fun w => absurd (show 0 ≤ (t : Int) ∧ (t : Int) ≤ 2 by omega) w⟩, fun w => absurd cf w⟩
        refine u2 (ho_up τ 30 0 0) _ _ st0 (fun σ2 s2 P2 => ?_)
        have s3 := sm_tr st0 (sm_w s2 pSc_ma)
        have q := hQ σ2 s3 (sm_fn s2 54 (fun _ => rfl)) hU
        rw [P2.1, wsu (by omega) (by omega)]
        simp only [mR_30_2, mR_30_3, mR_30_4, mR_30_6, mR_30_7, mR_30_9, mR_30_10, mR_30_11, mR_30_12, mR_30_13, mR_30_14, mR_30_15, mR_30_16, mR_30_18, mR_30_19, mR_30_20, mR_30_21, mR_30_22, mR_30_23, mR_30_24, mR_30_28, mR_30_29, mR_30_31, mR_0_9, mR_7_0, nN_25, nN_26, nN_27, nN_28, nN_29, nN_30, nN_31, nN_32, nN_33, nN_34, nN_35, nN_36, nN_37, nN_38, nN_39, nN_40, nN_41, nN_42, nN_43, nN_44, nN_45, nN_46, nN_47, nN_48, nN_49, nN_50, nN_51, nN_52, nN_53, nN_54, Int.toNat_natCast, saF, saE, ho_upF, ho_upE, ne_eq, not_false_eq_true, Nat.reduceEqDiff]
        refine ⟨fun z => ?_, fun z => ?_⟩
        · obtain ⟨w, rfl⟩ : ∃ w : Nat, i = (w : Int) := ⟨i.toNat, by omega⟩
          have hg : U[w]? = some U[w] := List.getElem?_eq_getElem (by omega)
          have e := P2.2 w _ hg
          rw [Int.toNat_natCast, e]
          exact ⟨by omega, nc_rg _, q.2 w _ rfl hg⟩
        · exact ⟨by omega, q.1 (fun y => z (by omega))⟩
      refine u1 _ _ (fun σ1 s1 P1 l1 => ?_)
      simp only [mX3_length, fX3_length, mX3_at, fX3_at, u_eC, u_eV, u_eF, u_eR, u_eI, u_eL, u_eB, u_eD, u_eM, u_eU, u_aN, u_aC, u_eK, u_eT, u_cLt, u_cLe, u_cGt, u_cGe, u_cEq, u_cNe, u_cAnd, u_cOr, u_cNot, u_zN, u_zS, u_zD, u_zL, u_zI, u_zB, u_zP, u_zF, u_zA, u_zU, u_zC, u_zR, u_zRZ, u_zRC, u_zRV, u_zT, u_zE, u_zK, u_zY, ho_nid, List.getD_cons_zero, List.getD_cons_succ, List.set_cons_zero, List.set_cons_succ, List.cons_append, List.nil_append, List.take_succ_cons, List.take_zero, Int.reduceToNat, Int.toNat_natCast, nN_0, nN_1, nN_2, nN_3, nN_4, nN_5, nN_6, nN_7, nN_8, nN_9, nN_10, nN_11, nN_12, nN_13, nN_14, nN_15, nN_16, nN_17, nN_18, nN_19, nN_20, nN_21, nN_22, nN_23, nN_24, nN_25, nN_26, nN_27, nN_28, nN_29, nN_30, nN_31, nN_32, nN_33, nN_34, nN_35, nN_36, nN_37, nN_38, nN_39, nN_40, nN_41, nN_42, nN_43, nN_44, nN_45, nN_46, nN_47, nN_48, nN_49, nN_50, nN_51, nN_52, nN_53, nN_54, nR_0_0, nR_0_1, nR_0_2, nR_0_3, nR_0_4, nR_0_5, nR_0_6, nR_0_7, nR_0_8, nR_0_9, nR_0_10, nR_1_0, nR_1_1, nR_1_2, nR_1_3, nR_1_4, nR_2_0, nR_2_1, nR_2_2, nR_2_3, nR_2_4, nR_3_0, nR_3_1, nR_4_2, nR_5_2, nR_6_0, nR_6_1, nR_6_2, nR_7_0, nR_30_2, nR_30_3, nR_30_4, nR_30_6, nR_30_7, nR_30_9, nR_30_10, nR_30_11, nR_30_12, nR_30_13, nR_30_14, nR_30_15, nR_30_16, nR_30_18, nR_30_19, nR_30_20, nR_30_21, nR_30_22, nR_30_23, nR_30_24, nR_30_28, nR_30_29, nR_30_31, (show ho_R 0 6 = 7 from rfl), P1.1]
      have thr3 : ¬ (0 ≤ i ∧ i < (U.length : Int)) → mX7_writtenChar [30, f, (t : Int), i] σ1 (fun _ σ => σ 30 0 = 2 ∧ hi_Inv (j + 1) σ) (fun _ _ => False) := fun z =>
        model σ1 _ s1 (fun σ2 s2 _ _ => ⟨fun _ => ⟨ho_upE, Inv_sc hj hI0 (sm_up s2 rfl)⟩, fun w u e hg => by
          have := (List.getElem?_eq_some_iff.mp hg).1
          exact absurd ⟨by omega, by omega⟩ z⟩) (by omega)
      refine ⟨fun z => Or.inr ⟨by trivial, thr3 (fun y => by omega)⟩, fun z => ⟨fun y => Or.inr ⟨by trivial, thr3 (fun w => by omega)⟩, fun y => ?_⟩⟩
      obtain ⟨w, rfl⟩ : ∃ w : Nat, i = (w : Int) := ⟨i.toNat, by omega⟩
      have hg : U[w]? = some U[w] := List.getElem?_eq_getElem (by omega)
      have e := P1.2 w _ hg
      simp only [mR_30_2, mR_30_3, mR_30_4, mR_30_6, mR_30_7, mR_30_9, mR_30_10, mR_30_11, mR_30_12, mR_30_13, mR_30_14, mR_30_15, mR_30_16, mR_30_18, mR_30_19, mR_30_20, mR_30_21, mR_30_22, mR_30_23, mR_30_24, mR_30_28, mR_30_29, mR_30_31, mR_0_9, mR_7_0, nN_25, nN_26, nN_27, nN_28, nN_29, nN_30, nN_31, nN_32, nN_33, nN_34, nN_35, nN_36, nN_37, nN_38, nN_39, nN_40, nN_41, nN_42, nN_43, nN_44, nN_45, nN_46, nN_47, nN_48, nN_49, nN_50, nN_51, nN_52, nN_53, nN_54, Int.toNat_natCast]
      rw [e]
      have rg := nc_rg (ho_oi2c U[w])
      refine ⟨fun _ => ⟨fun _ => ⟨by omega, rg, rg, ?_⟩, fun x => absurd x (by omega)⟩, fun x => absurd x (by omega)⟩
      refine tau (fun τ sτ τ54 eτ => model τ _ (sm_tr s1 sτ) (fun σ2 s2 e54 _ => ⟨fun x => absurd (by omega) x, fun w' u e' hg' => ⟨ho_upE, ?_, Inv_sc hj hI0 (sm_up s2 rfl)⟩⟩) (by omega))
      rw [f54, e54, τ54]
      have ww : w' = w := by omega
      subst ww
      rw [hg] at hg'
      cases hg'
      rfl
    · rw [if_neg ct]
      exact Or.inr ⟨by trivial, thr2 cf ct⟩
  · rw [if_neg cf]
    exact Or.inl ⟨by trivial, thr1 cf⟩

theorem op_frames {xs : Nat → Int32} {L j : Nat} {σ : ho_S} (hj : j < 512) (hI : hi_Inv j σ) : lf_frames xs L [60, 0, 30, 54, 5 * (j : Int)] σ (fun v σ => v = [60, 0, 30, 54, 5 * (j : Int)] ∧ hi_Inv (j + 1) σ) := by
  have hI0 := hI
  obtain ⟨_, S, N, M, h1, _⟩ := hI
  simp only [lf_frames, mX6_frames, fX6_frames, mX7_frames, fX7_frames, u_eC, u_eV, u_eF, u_eR, u_eI, u_eL, u_eB, u_eD, u_eM, u_eU, u_aN, u_aC, u_eK, u_eT, u_cLt, u_cLe, u_cGt, u_cGe, u_cEq, u_cNe, u_cAnd, u_cOr, u_cNot, u_zN, u_zS, u_zD, u_zL, u_zI, u_zB, u_zP, u_zF, u_zA, u_zU, u_zC, u_zR, u_zRZ, u_zRC, u_zRV, u_zT, u_zE, u_zK, u_zY, ho_nid, List.getD_cons_zero, List.getD_cons_succ, List.set_cons_zero, List.set_cons_succ, List.cons_append, List.nil_append, List.take_succ_cons, List.take_zero, Int.reduceToNat, Int.toNat_natCast, nN_0, nN_1, nN_2, nN_3, nN_4, nN_5, nN_6, nN_7, nN_8, nN_9, nN_10, nN_11, nN_12, nN_13, nN_14, nN_15, nN_16, nN_17, nN_18, nN_19, nN_20, nN_21, nN_22, nN_23, nN_24, nN_25, nN_26, nN_27, nN_28, nN_29, nN_30, nN_31, nN_32, nN_33, nN_34, nN_35, nN_36, nN_37, nN_38, nN_39, nN_40, nN_41, nN_42, nN_43, nN_44, nN_45, nN_46, nN_47, nN_48, nN_49, nN_50, nN_51, nN_52, nN_53, nN_54, nR_0_0, nR_0_1, nR_0_2, nR_0_3, nR_0_4, nR_0_5, nR_0_6, nR_0_7, nR_0_8, nR_0_9, nR_0_10, nR_1_0, nR_1_1, nR_1_2, nR_1_3, nR_1_4, nR_2_0, nR_2_1, nR_2_2, nR_2_3, nR_2_4, nR_3_0, nR_3_1, nR_4_2, nR_5_2, nR_6_0, nR_6_1, nR_6_2, nR_7_0, nR_30_2, nR_30_3, nR_30_4, nR_30_6, nR_30_7, nR_30_9, nR_30_10, nR_30_11, nR_30_12, nR_30_13, nR_30_14, nR_30_15, nR_30_16, nR_30_18, nR_30_19, nR_30_20, nR_30_21, nR_30_22, nR_30_23, nR_30_24, nR_30_28, nR_30_29, nR_30_31, sp_fsize, h1.2.2.1]
  have e : (ho_up σ 30 0 0) 30 5 = (N : Int) := h1.2.2.2.1
  rw [e]
  exact ⟨fun z => absurd rfl z, fun _ => ⟨trivial, Inv_sc hj hI0 (sm_up sm_rf rfl)⟩⟩
theorem op_captions {xs : Nat → Int32} {L j : Nat} {σ : ho_S} (hj : j < 512) (hI : hi_Inv j σ) : lf_captions xs L [60, 0, 30, 54, 5 * (j : Int)] σ (fun v σ => v = [60, 0, 30, 54, 5 * (j : Int)] ∧ hi_Inv (j + 1) σ) := by
  have hI0 := hI
  obtain ⟨_, S, N, M, h1, _⟩ := hI
  simp only [lf_captions, mX6_captions, fX6_captions, mX7_captions, fX7_captions, u_eC, u_eV, u_eF, u_eR, u_eI, u_eL, u_eB, u_eD, u_eM, u_eU, u_aN, u_aC, u_eK, u_eT, u_cLt, u_cLe, u_cGt, u_cGe, u_cEq, u_cNe, u_cAnd, u_cOr, u_cNot, u_zN, u_zS, u_zD, u_zL, u_zI, u_zB, u_zP, u_zF, u_zA, u_zU, u_zC, u_zR, u_zRZ, u_zRC, u_zRV, u_zT, u_zE, u_zK, u_zY, ho_nid, List.getD_cons_zero, List.getD_cons_succ, List.set_cons_zero, List.set_cons_succ, List.cons_append, List.nil_append, List.take_succ_cons, List.take_zero, Int.reduceToNat, Int.toNat_natCast, nN_0, nN_1, nN_2, nN_3, nN_4, nN_5, nN_6, nN_7, nN_8, nN_9, nN_10, nN_11, nN_12, nN_13, nN_14, nN_15, nN_16, nN_17, nN_18, nN_19, nN_20, nN_21, nN_22, nN_23, nN_24, nN_25, nN_26, nN_27, nN_28, nN_29, nN_30, nN_31, nN_32, nN_33, nN_34, nN_35, nN_36, nN_37, nN_38, nN_39, nN_40, nN_41, nN_42, nN_43, nN_44, nN_45, nN_46, nN_47, nN_48, nN_49, nN_50, nN_51, nN_52, nN_53, nN_54, nR_0_0, nR_0_1, nR_0_2, nR_0_3, nR_0_4, nR_0_5, nR_0_6, nR_0_7, nR_0_8, nR_0_9, nR_0_10, nR_1_0, nR_1_1, nR_1_2, nR_1_3, nR_1_4, nR_2_0, nR_2_1, nR_2_2, nR_2_3, nR_2_4, nR_3_0, nR_3_1, nR_4_2, nR_5_2, nR_6_0, nR_6_1, nR_6_2, nR_7_0, nR_30_2, nR_30_3, nR_30_4, nR_30_6, nR_30_7, nR_30_9, nR_30_10, nR_30_11, nR_30_12, nR_30_13, nR_30_14, nR_30_15, nR_30_16, nR_30_18, nR_30_19, nR_30_20, nR_30_21, nR_30_22, nR_30_23, nR_30_24, nR_30_28, nR_30_29, nR_30_31, h1.2.2.2.2.1]
  have e : (ho_up σ 30 0 0) 30 8 = (M : Int) := h1.2.2.2.2.2.1
  rw [e]
  exact ⟨fun z => absurd rfl z, fun _ => ⟨trivial, Inv_sc hj hI0 (sm_up sm_rf rfl)⟩⟩
