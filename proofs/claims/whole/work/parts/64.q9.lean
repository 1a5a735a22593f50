theorem sp_lay_thr {j S N M : Nat} {p a n : Int} {σ : ho_S} (hj : j < 512) (hI0 : hi_Inv j σ) (h1 : GS S N M σ) (hN : N ≤ 4800) : (¬ (0 ≤ p ∧ p < (M : Int)) → mX7_lay [30, p, a, n] σ (fun _ σ => σ 30 0 = 1 ∧ hi_Inv (j + 1) σ) (fun _ _ => False)) ∧ ((0 ≤ p ∧ p < (M : Int)) → ¬ (0 ≤ a ∧ a < (N : Int)) → mX7_lay [30, p, a, n] σ (fun _ σ => σ 30 0 = 1 ∧ hi_Inv (j + 1) σ) (fun _ _ => False)) ∧ ((0 ≤ p ∧ p < (M : Int)) → (0 ≤ a ∧ a < (N : Int)) → ¬ (1 ≤ n ∧ n ≤ 250) → mX7_lay [30, p, a, n] σ (fun _ σ => σ 30 0 = 2 ∧ hi_Inv (j + 1) σ) (fun _ _ => False)) ∧ ((0 ≤ p ∧ p < (M : Int)) → (0 ≤ a ∧ a < (N : Int)) → (1 ≤ n ∧ n ≤ 250) → ¬ n ≤ (N : Int) - a → mX7_lay [30, p, a, n] σ (fun _ σ => σ 30 0 = 1 ∧ hi_Inv (j + 1) σ) (fun _ _ => False)) := by
  have e5 := h1.2.2.2.1
  have e8 := h1.2.2.2.2.2.1
  have hM := h1.2.2.2.2.2.2
  refine ⟨fun b => ?_, fun b c => ?_, fun b c d => ?_, fun b c d e => ?_⟩
  · simp only [mX7_lay, fX7_lay, u_eC, u_eV, u_eF, u_eR, u_eI, u_eL, u_eB, u_eD, u_eM, u_eU, u_aN, u_aC, u_eK, u_eT, u_cLt, u_cLe, u_cGt, u_cGe, u_cEq, u_cNe, u_cAnd, u_cOr, u_cNot, u_zN, u_zS, u_zD, u_zL, u_zI, u_zB, u_zP, u_zF, u_zA, u_zU, u_zC, u_zR, u_zRZ, u_zRC, u_zRV, u_zT, u_zE, u_zK, u_zY, ho_nid, List.getD_cons_zero, List.getD_cons_succ, List.set_cons_zero, List.set_cons_succ, List.cons_append, List.nil_append, List.take_succ_cons, List.take_zero, Int.reduceToNat, Int.toNat_natCast, nN_0, nN_1, nN_2, nN_3, nN_4, nN_5, nN_6, nN_7, nN_8, nN_9, nN_10, nN_11, nN_12, nN_13, nN_14, nN_15, nN_16, nN_17, nN_18, nN_19, nN_20, nN_21, nN_22, nN_23, nN_24, nN_25, nN_26, nN_27, nN_28, nN_29, nN_30, nN_31, nN_32, nN_33, nN_34, nN_35, nN_36, nN_37, nN_38, nN_39, nN_40, nN_41, nN_42, nN_43, nN_44, nN_45, nN_46, nN_47, nN_48, nN_49, nN_50, nN_51, nN_52, nN_53, nN_54, nR_0_0, nR_0_1, nR_0_2, nR_0_3, nR_0_4, nR_0_5, nR_0_6, nR_0_7, nR_0_8, nR_0_9, nR_0_10, nR_1_0, nR_1_1, nR_1_2, nR_1_3, nR_1_4, nR_2_0, nR_2_1, nR_2_2, nR_2_3, nR_2_4, nR_3_0, nR_3_1, nR_4_2, nR_5_2, nR_6_0, nR_6_1, nR_6_2, nR_7_0, nR_30_2, nR_30_3, nR_30_4, nR_30_6, nR_30_7, nR_30_9, nR_30_10, nR_30_11, nR_30_12, nR_30_13, nR_30_14, nR_30_15, nR_30_16, nR_30_18, nR_30_19, nR_30_20, nR_30_21, nR_30_22, nR_30_23, nR_30_24, nR_30_28, nR_30_29, nR_30_31, sp_in, sp_isCaption (σ := σ) (show 0 ≤ σ 30 8 by rw [e8]; omega) (show σ 30 8 ≤ 16 by rw [e8]; omega), sp_isPlace (σ := σ) (show 0 ≤ σ 30 5 by rw [e5]; omega) (show σ 30 5 ≤ 4800 by rw [e5]; omega), zlt, zle, zl1, zl2, zl3, z1l, z2l, z3l, z1e, z2e, z3e, z1n, z2n, z3n, z0n, z0e, true_implies, false_implies, and_true, true_and, ho_upE, bI_ne, bI_eq, true_or, or_true, e5, e8]
    exact ⟨fun w => absurd w b, fun _ => Inv_sc hj hI0 (sm_up sm_rf rfl)⟩
  · simp only [mX7_lay, fX7_lay, u_eC, u_eV, u_eF, u_eR, u_eI, u_eL, u_eB, u_eD, u_eM, u_eU, u_aN, u_aC, u_eK, u_eT, u_cLt, u_cLe, u_cGt, u_cGe, u_cEq, u_cNe, u_cAnd, u_cOr, u_cNot, u_zN, u_zS, u_zD, u_zL, u_zI, u_zB, u_zP, u_zF, u_zA, u_zU, u_zC, u_zR, u_zRZ, u_zRC, u_zRV, u_zT, u_zE, u_zK, u_zY, ho_nid, List.getD_cons_zero, List.getD_cons_succ, List.set_cons_zero, List.set_cons_succ, List.cons_append, List.nil_append, List.take_succ_cons, List.take_zero, Int.reduceToNat, Int.toNat_natCast, nN_0, nN_1, nN_2, nN_3, nN_4, nN_5, nN_6, nN_7, nN_8, nN_9, nN_10, nN_11, nN_12, nN_13, nN_14, nN_15, nN_16, nN_17, nN_18, nN_19, nN_20, nN_21, nN_22, nN_23, nN_24, nN_25, nN_26, nN_27, nN_28, nN_29, nN_30, nN_31, nN_32, nN_33, nN_34, nN_35, nN_36, nN_37, nN_38, nN_39, nN_40, nN_41, nN_42, nN_43, nN_44, nN_45, nN_46, nN_47, nN_48, nN_49, nN_50, nN_51, nN_52, nN_53, nN_54, nR_0_0, nR_0_1, nR_0_2, nR_0_3, nR_0_4, nR_0_5, nR_0_6, nR_0_7, nR_0_8, nR_0_9, nR_0_10, nR_1_0, nR_1_1, nR_1_2, nR_1_3, nR_1_4, nR_2_0, nR_2_1, nR_2_2, nR_2_3, nR_2_4, nR_3_0, nR_3_1, nR_4_2, nR_5_2, nR_6_0, nR_6_1, nR_6_2, nR_7_0, nR_30_2, nR_30_3, nR_30_4, nR_30_6, nR_30_7, nR_30_9, nR_30_10, nR_30_11, nR_30_12, nR_30_13, nR_30_14, nR_30_15, nR_30_16, nR_30_18, nR_30_19, nR_30_20, nR_30_21, nR_30_22, nR_30_23, nR_30_24, nR_30_28, nR_30_29, nR_30_31, sp_in, sp_isCaption (σ := σ) (show 0 ≤ σ 30 8 by rw [e8]; omega) (show σ 30 8 ≤ 16 by rw [e8]; omega), sp_isPlace (σ := σ) (show 0 ≤ σ 30 5 by rw [e5]; omega) (show σ 30 5 ≤ 4800 by rw [e5]; omega), zlt, zle, zl1, zl2, zl3, z1l, z2l, z3l, z1e, z2e, z3e, z1n, z2n, z3n, z0n, z0e, true_implies, false_implies, and_true, true_and, ho_upE, bI_ne, bI_eq, true_or, or_true, e5, e8]
    exact ⟨fun _ => ⟨fun w => absurd w c, fun _ => Inv_sc hj hI0 (sm_up sm_rf rfl)⟩, fun w => absurd b w⟩
  · simp only [mX7_lay, fX7_lay, u_eC, u_eV, u_eF, u_eR, u_eI, u_eL, u_eB, u_eD, u_eM, u_eU, u_aN, u_aC, u_eK, u_eT, u_cLt, u_cLe, u_cGt, u_cGe, u_cEq, u_cNe, u_cAnd, u_cOr, u_cNot, u_zN, u_zS, u_zD, u_zL, u_zI, u_zB, u_zP, u_zF, u_zA, u_zU, u_zC, u_zR, u_zRZ, u_zRC, u_zRV, u_zT, u_zE, u_zK, u_zY, ho_nid, List.getD_cons_zero, List.getD_cons_succ, List.set_cons_zero, List.set_cons_succ, List.cons_append, List.nil_append, List.take_succ_cons, List.take_zero, Int.reduceToNat, Int.toNat_natCast, nN_0, nN_1, nN_2, nN_3, nN_4, nN_5, nN_6, nN_7, nN_8, nN_9, nN_10, nN_11, nN_12, nN_13, nN_14, nN_15, nN_16, nN_17, nN_18, nN_19, nN_20, nN_21, nN_22, nN_23, nN_24, nN_25, nN_26, nN_27, nN_28, nN_29, nN_30, nN_31, nN_32, nN_33, nN_34, nN_35, nN_36, nN_37, nN_38, nN_39, nN_40, nN_41, nN_42, nN_43, nN_44, nN_45, nN_46, nN_47, nN_48, nN_49, nN_50, nN_51, nN_52, nN_53, nN_54, nR_0_0, nR_0_1, nR_0_2, nR_0_3, nR_0_4, nR_0_5, nR_0_6, nR_0_7, nR_0_8, nR_0_9, nR_0_10, nR_1_0, nR_1_1, nR_1_2, nR_1_3, nR_1_4, nR_2_0, nR_2_1, nR_2_2, nR_2_3, nR_2_4, nR_3_0, nR_3_1, nR_4_2, nR_5_2, nR_6_0, nR_6_1, nR_6_2, nR_7_0, nR_30_2, nR_30_3, nR_30_4, nR_30_6, nR_30_7, nR_30_9, nR_30_10, nR_30_11, nR_30_12, nR_30_13, nR_30_14, nR_30_15, nR_30_16, nR_30_18, nR_30_19, nR_30_20, nR_30_21, nR_30_22, nR_30_23, nR_30_24, nR_30_28, nR_30_29, nR_30_31, sp_in, sp_isCaption (σ := σ) (show 0 ≤ σ 30 8 by rw [e8]; omega) (show σ 30 8 ≤ 16 by rw [e8]; omega), sp_isPlace (σ := σ) (show 0 ≤ σ 30 5 by rw [e5]; omega) (show σ 30 5 ≤ 4800 by rw [e5]; omega), zlt, zle, zl1, zl2, zl3, z1l, z2l, z3l, z1e, z2e, z3e, z1n, z2n, z3n, z0n, z0e, true_implies, false_implies, and_true, true_and, ho_upE, bI_ne, bI_eq, true_or, or_true, e5, e8]
    exact ⟨fun _ => ⟨fun _ => ⟨fun w => absurd w d, fun _ => Inv_sc hj hI0 (sm_up sm_rf rfl)⟩, fun w => absurd c w⟩, fun w => absurd b w⟩
  · simp only [mX7_lay, fX7_lay, u_eC, u_eV, u_eF, u_eR, u_eI, u_eL, u_eB, u_eD, u_eM, u_eU, u_aN, u_aC, u_eK, u_eT, u_cLt, u_cLe, u_cGt, u_cGe, u_cEq, u_cNe, u_cAnd, u_cOr, u_cNot, u_zN, u_zS, u_zD, u_zL, u_zI, u_zB, u_zP, u_zF, u_zA, u_zU, u_zC, u_zR, u_zRZ, u_zRC, u_zRV, u_zT, u_zE, u_zK, u_zY, ho_nid, List.getD_cons_zero, List.getD_cons_succ, List.set_cons_zero, List.set_cons_succ, List.cons_append, List.nil_append, List.take_succ_cons, List.take_zero, Int.reduceToNat, Int.toNat_natCast, nN_0, nN_1, nN_2, nN_3, nN_4, nN_5, nN_6, nN_7, nN_8, nN_9, nN_10, nN_11, nN_12, nN_13, nN_14, nN_15, nN_16, nN_17, nN_18, nN_19, nN_20, nN_21, nN_22, nN_23, nN_24, nN_25, nN_26, nN_27, nN_28, nN_29, nN_30, nN_31, nN_32, nN_33, nN_34, nN_35, nN_36, nN_37, nN_38, nN_39, nN_40, nN_41, nN_42, nN_43, nN_44, nN_45, nN_46, nN_47, nN_48, nN_49, nN_50, nN_51, nN_52, nN_53, nN_54, nR_0_0, nR_0_1, nR_0_2, nR_0_3, nR_0_4, nR_0_5, nR_0_6, nR_0_7, nR_0_8, nR_0_9, nR_0_10, nR_1_0, nR_1_1, nR_1_2, nR_1_3, nR_1_4, nR_2_0, nR_2_1, nR_2_2, nR_2_3, nR_2_4, nR_3_0, nR_3_1, nR_4_2, nR_5_2, nR_6_0, nR_6_1, nR_6_2, nR_7_0, nR_30_2, nR_30_3, nR_30_4, nR_30_6, nR_30_7, nR_30_9, nR_30_10, nR_30_11, nR_30_12, nR_30_13, nR_30_14, nR_30_15, nR_30_16, nR_30_18, nR_30_19, nR_30_20, nR_30_21, nR_30_22, nR_30_23, nR_30_24, nR_30_28, nR_30_29, nR_30_31, sp_in, sp_isCaption (σ := σ) (show 0 ≤ σ 30 8 by rw [e8]; omega) (show σ 30 8 ≤ 16 by rw [e8]; omega), sp_isPlace (σ := σ) (show 0 ≤ σ 30 5 by rw [e5]; omega) (show σ 30 5 ≤ 4800 by rw [e5]; omega), sp_areFrames (σ := σ) (show 0 ≤ σ 30 5 by rw [e5]; omega) (show σ 30 5 ≤ 4800 by rw [e5]; omega) c.1 (show a ≤ σ 30 5 by rw [e5]; omega), zlt, zle, zl1, zl2, zl3, z1l, z2l, z3l, z1e, z2e, z3e, z1n, z2n, z3n, z0n, z0e, true_implies, false_implies, and_true, true_and, ho_upE, bI_ne, bI_eq, true_or, or_true, e5, e8]
    exact ⟨fun _ => ⟨fun _ => ⟨fun _ => ⟨fun w => absurd w e, fun _ => Inv_sc hj hI0 (sm_up sm_rf rfl)⟩, fun w => absurd d w⟩, fun w => absurd c w⟩, fun w => absurd b w⟩

theorem op_lay {j : Nat} {σ : ho_S} {p f n : Int} (hj : j < 512) (hI : hi_Inv j σ) : mX6_lay [0, p, f, n] σ (fun a σ => mX7_lay [30, p, f, n] (ho_up σ 54 0 a) (fun b σ => σ 30 0 = 0 ∧ σ 54 0 = b ∧ hi_Inv (j + 1) σ) (fun _ _ => False)) (fun ec σ => (ec = 2 ∧ mX7_lay [30, p, f, n] σ (fun _ σ => σ 30 0 = 1 ∧ hi_Inv (j + 1) σ) (fun _ _ => False)) ∨ (ec = 0 ∧ mX7_lay [30, p, f, n] σ (fun _ σ => σ 30 0 = 2 ∧ hi_Inv (j + 1) σ) (fun _ _ => False))) := by
  have hI0 := hI
  obtain ⟨_, S, N, M, h1, h2, h3, h4, h5, h6, h7, h8, h9, h10, h11, h12, h13⟩ := hI
  have hM := h1.2.2.2.2.2.2
  have hN : N ≤ 4800 := by have := h2.1; have := h2.2.1; omega
  have thr := sp_lay_thr (p := p) (a := f) (n := n) hj hI0 h1 hN
  have e5 := h1.2.2.2.1
  have e8 := h1.2.2.2.2.2.1
  simp only [mX6_lay, fX6_lay, u_eC, u_eV, u_eF, u_eR, u_eI, u_eL, u_eB, u_eD, u_eM, u_eU, u_aN, u_aC, u_eK, u_eT, u_cLt, u_cLe, u_cGt, u_cGe, u_cEq, u_cNe, u_cAnd, u_cOr, u_cNot, u_zN, u_zS, u_zD, u_zL, u_zI, u_zB, u_zP, u_zF, u_zA, u_zU, u_zC, u_zR, u_zRZ, u_zRC, u_zRV, u_zT, u_zE, u_zK, u_zY, ho_nid, List.getD_cons_zero, List.getD_cons_succ, List.set_cons_zero, List.set_cons_succ, List.cons_append, List.nil_append, List.take_succ_cons, List.take_zero, Int.reduceToNat, Int.toNat_natCast, nN_0, nN_1, nN_2, nN_3, nN_4, nN_5, nN_6, nN_7, nN_8, nN_9, nN_10, nN_11, nN_12, nN_13, nN_14, nN_15, nN_16, nN_17, nN_18, nN_19, nN_20, nN_21, nN_22, nN_23, nN_24, nN_25, nN_26, nN_27, nN_28, nN_29, nN_30, nN_31, nN_32, nN_33, nN_34, nN_35, nN_36, nN_37, nN_38, nN_39, nN_40, nN_41, nN_42, nN_43, nN_44, nN_45, nN_46, nN_47, nN_48, nN_49, nN_50, nN_51, nN_52, nN_53, nN_54, nR_0_0, nR_0_1, nR_0_2, nR_0_3, nR_0_4, nR_0_5, nR_0_6, nR_0_7, nR_0_8, nR_0_9, nR_0_10, nR_1_0, nR_1_1, nR_1_2, nR_1_3, nR_1_4, nR_2_0, nR_2_1, nR_2_2, nR_2_3, nR_2_4, nR_3_0, nR_3_1, nR_4_2, nR_5_2, nR_6_0, nR_6_1, nR_6_2, nR_7_0, nR_30_2, nR_30_3, nR_30_4, nR_30_6, nR_30_7, nR_30_9, nR_30_10, nR_30_11, nR_30_12, nR_30_13, nR_30_14, nR_30_15, nR_30_16, nR_30_18, nR_30_19, nR_30_20, nR_30_21, nR_30_22, nR_30_23, nR_30_24, nR_30_28, nR_30_29, nR_30_31, sp_needCaption, sp_needRun (σ := σ) (show 0 ≤ σ 1 6 by rw [h1.2.2.1]; omega) (show σ 1 6 ≤ 4800 by rw [h1.2.2.1]; omega), h1.2.2.1, h1.2.2.2.2.1]
  by_cases c0 : 0 ≤ p ∧ p < (M : Int)
  · rw [if_pos c0]
    by_cases c1 : 0 ≤ f ∧ f < (N : Int)
    · rw [if_neg (fun z => z c1)]
      by_cases c2 : n ≤ 250 ∧ (N : Int) - f < n
      · rw [if_pos c2]
        exact Or.inl ⟨by trivial, thr.2.2.2 c0 c1 (by omega) (by omega)⟩
      · rw [if_neg c2]
        by_cases c3 : 1 ≤ n ∧ n ≤ 250
        · rw [if_pos c3]
          have c4 : n ≤ (N : Int) - f := by omega
          obtain ⟨c, rfl⟩ : ∃ q : Nat, p = (q : Int) := ⟨p.toNat, by omega⟩
          obtain ⟨a, rfl⟩ : ∃ q : Nat, f = (q : Int) := ⟨f.toNat, by omega⟩
          obtain ⟨n, rfl⟩ : ∃ q : Nat, n = (q : Int) := ⟨n.toNat, by omega⟩
          have hc16 : c < 16 := by omega
          refine sp_tstart.mpr ?_
          rw [gi13 hc16]
          refine sp_unmark ?_
          obtain ⟨σa, hσa⟩ : ∃ σa, σa = sa σ 11 (fun k => if k < 4812 then ho_oand (σ 11 k) (ho_oxor (ho_oshl 1 (c : Int)) (-1)) else σ 11 k) := ⟨_, rfl⟩
          have a11 : ∀ k, k < 4812 → σa 11 k = clr (σ 11 k) c := fun k hk => by
            rw [hσa, saE]
            show (if k < 4812 then _ else _) = _
            rw [if_pos hk]; rfl
          have ak : ∀ k, k ≠ 11 → σa k = σ k := fun k hk => by rw [hσa, saF hk]
          have sa9 : sm pLa σ σa := by rw [hσa]; exact sm_sa sm_rf (fun _ => rfl)
          rw [← hσa]
          clear hσa
          have a8 := ak 8 (by omega)
          have a1 := ak 1 (by omega)
          have keys : ∀ i : Nat, i < N → 0 ≤ σ 8 i ∧ σ 8 i < 4812 := fun i hi => by have := h2.2.2.2.1 i hi; omega
          refine sp_mark (by omega) (by omega) (by rw [a1, h1.2.2.1]; omega) (by rw [a1, h1.2.2.1]; omega) (fun i hi => by rw [a8]; rw [a1, h1.2.2.1] at hi; exact keys i (by omega)) (fun i k hi hk w => ?_) (fun g g1 g2 => ?_)
          · rw [a8] at w
            have f1 := h2.2.2.2.1 (a + i) (by omega)
            have f2 := h2.2.2.2.1 (a + k) (by omega)
            have w' : (σ 8 (a + i)).toNat = (σ 8 (a + k)).toNat := w
            have := h2.2.2.2.2.2 (a + i) (a + k) (by omega) (by omega) (by omega)
            omega
          rw [a8] at g1 g2
          refine sp_tset.mpr ?_
          rw [si13 hc16, si14 hc16]
          refine sp_forgetAllNames hc16 ?_
          refine tau (fun τ sτ τ54 eτ => ?_)
          have q : ∀ k, k ≠ 54 → k ≠ 27 → k ≠ 11 → k ≠ 13 → k ≠ 14 → τ k = σ k := fun k a1 a2 a3 a4 a5 => by rw [eτ k a1, saF a2, ho_upF a5, ho_upF a4, saF a3, ak k a3]
          have q0 := q 0 (by omega) (by omega) (by omega) (by omega) (by omega)
          have q30 := q 30 (by omega) (by omega) (by omega) (by omega) (by omega)
          have q33 := q 33 (by omega) (by omega) (by omega) (by omega) (by omega)
          have q34 := q 34 (by omega) (by omega) (by omega) (by omega) (by omega)
          have q37 := q 37 (by omega) (by omega) (by omega) (by omega) (by omega)
          have q38 := q 38 (by omega) (by omega) (by omega) (by omega) (by omega)
          have q44 := q 44 (by omega) (by omega) (by omega) (by omega) (by omega)
          have p13 : ∀ i, τ 13 i = if i = c then (a : Int) else σ 13 i := fun i => by
            rw [eτ 13 (by omega), saF (show (13 : Nat) ≠ 27 by decide), ho_upF (show (13 : Nat) ≠ 14 by decide), ho_upA, saF (show (13 : Nat) ≠ 11 by decide), ak 13 (by omega)]
          have p14 : ∀ i, τ 14 i = if i = c then (n : Int) else σ 14 i := fun i => by
            rw [eτ 14 (by omega), saF (show (14 : Nat) ≠ 27 by decide), ho_upA, ho_upF (show (14 : Nat) ≠ 13 by decide), saF (show (14 : Nat) ≠ 11 by decide), ak 14 (by omega)]
          have p11 : τ 11 = g := by rw [eτ 11 (by omega), saF (show (11 : Nat) ≠ 27 by decide), ho_upF (show (11 : Nat) ≠ 14 by decide), ho_upF (show (11 : Nat) ≠ 13 by decide), saE]
          have p27 : τ 27 = fgn (σ 27) (3 * c) 3 := by rw [eτ 27 (by omega), saE, ho_upF (show (27 : Nat) ≠ 14 by decide), ho_upF (show (27 : Nat) ≠ 13 by decide), saF (show (27 : Nat) ≠ 11 by decide), ak 27 (by omega)]
          have sA : sm pLa σ τ := sm_tr (sm_sa (sm_up (sm_up (sm_sa sa9 (fun _ => rfl)) rfl) rfl) (fun _ => rfl)) (sm_w sτ pLa_sc)
          have m5 : τ 30 5 = (N : Int) := by rw [q30]; exact e5
          have m8 : τ 30 8 = (M : Int) := by rw [q30]; exact e8
          have m1 : τ 30 1 = (S : Int) := by rw [q30]; exact h1.2.1
          simp only [mX7_lay, fX7_lay, u_eC, u_eV, u_eF, u_eR, u_eI, u_eL, u_eB, u_eD, u_eM, u_eU, u_aN, u_aC, u_eK, u_eT, u_cLt, u_cLe, u_cGt, u_cGe, u_cEq, u_cNe, u_cAnd, u_cOr, u_cNot, u_zN, u_zS, u_zD, u_zL, u_zI, u_zB, u_zP, u_zF, u_zA, u_zU, u_zC, u_zR, u_zRZ, u_zRC, u_zRV, u_zT, u_zE, u_zK, u_zY, ho_nid, List.getD_cons_zero, List.getD_cons_succ, List.set_cons_zero, List.set_cons_succ, List.cons_append, List.nil_append, List.take_succ_cons, List.take_zero, Int.reduceToNat, Int.toNat_natCast, nN_0, nN_1, nN_2, nN_3, nN_4, nN_5, nN_6, nN_7, nN_8, nN_9, nN_10, nN_11, nN_12, nN_13, nN_14, nN_15, nN_16, nN_17, nN_18, nN_19, nN_20, nN_21, nN_22, nN_23, nN_24, nN_25, nN_26, nN_27, nN_28, nN_29, nN_30, nN_31, nN_32, nN_33, nN_34, nN_35, nN_36, nN_37, nN_38, nN_39, nN_40, nN_41, nN_42, nN_43, nN_44, nN_45, nN_46, nN_47, nN_48, nN_49, nN_50, nN_51, nN_52, nN_53, nN_54, nR_0_0, nR_0_1, nR_0_2, nR_0_3, nR_0_4, nR_0_5, nR_0_6, nR_0_7, nR_0_8, nR_0_9, nR_0_10, nR_1_0, nR_1_1, nR_1_2, nR_1_3, nR_1_4, nR_2_0, nR_2_1, nR_2_2, nR_2_3, nR_2_4, nR_3_0, nR_3_1, nR_4_2, nR_5_2, nR_6_0, nR_6_1, nR_6_2, nR_7_0, nR_30_2, nR_30_3, nR_30_4, nR_30_6, nR_30_7, nR_30_9, nR_30_10, nR_30_11, nR_30_12, nR_30_13, nR_30_14, nR_30_15, nR_30_16, nR_30_18, nR_30_19, nR_30_20, nR_30_21, nR_30_22, nR_30_23, nR_30_24, nR_30_28, nR_30_29, nR_30_31, sp_in, sp_isCaption (σ := τ) (show 0 ≤ τ 30 8 by rw [m8]; omega) (show τ 30 8 ≤ 16 by rw [m8]; omega), sp_isPlace (σ := τ) (show 0 ≤ τ 30 5 by rw [m5]; omega) (show τ 30 5 ≤ 4800 by rw [m5]; omega), sp_areFrames (σ := τ) (show 0 ≤ τ 30 5 by rw [m5]; omega) (show τ 30 5 ≤ 4800 by rw [m5]; omega) (show 0 ≤ (a : Int) by omega) (show (a : Int) ≤ τ 30 5 by rw [m5]; omega), zlt, zle, zl1, zl2, zl3, z1l, z2l, z3l, z1e, z2e, z3e, z1n, z2n, z3n, z0n, z0e, true_implies, false_implies, and_true, true_and, ho_upE, bI_ne, bI_eq, true_or, or_true, m5, m8]
          simp only [mR_30_2, mR_30_3, mR_30_4, mR_30_6, mR_30_7, mR_30_9, mR_30_10, mR_30_11, mR_30_12, mR_30_13, mR_30_14, mR_30_15, mR_30_16, mR_30_18, mR_30_19, mR_30_20, mR_30_21, mR_30_22, mR_30_23, mR_30_24, mR_30_28, mR_30_29, mR_30_31, mR_0_9, mR_7_0, nN_25, nN_26, nN_27, nN_28, nN_29, nN_30, nN_31, nN_32, nN_33, nN_34, nN_35, nN_36, nN_37, nN_38, nN_39, nN_40, nN_41, nN_42, nN_43, nN_44, nN_45, nN_46, nN_47, nN_48, nN_49, nN_50, nN_51, nN_52, nN_53, nN_54, Int.toNat_natCast, saF, saE, ho_upF, ho_upE, ne_eq, not_false_eq_true, Nat.reduceEqDiff, q37]
          refine ⟨fun _ => ⟨fun _ => ⟨fun _ => ⟨fun _ => ⟨by omega, ?_⟩, fun w => absurd c4 w⟩, fun w => absurd c3 w⟩, fun w => absurd c1 w⟩, fun w => absurd c0 w⟩
          obtain ⟨τ2, hτ2⟩ : ∃ τ2, τ2 = ho_up τ 30 0 0 := ⟨_, rfl⟩
          have r5 : τ2 30 5 = (N : Int) := by rw [hτ2, ho_upJ (show (5 : Nat) ≠ 0 by decide)]; exact m5
          have r1 : τ2 30 1 = (S : Int) := by rw [hτ2, ho_upJ (show (1 : Nat) ≠ 0 by decide)]; exact m1
          have r0 : τ2 30 0 = 0 := by rw [hτ2, ho_upE]
          have r8 : τ2 30 8 = (M : Int) := by rw [hτ2, ho_upJ (show (8 : Nat) ≠ 0 by decide)]; exact m8
          have rk : ∀ k, k ≠ 30 → τ2 k = τ k := fun k hk => by rw [hτ2, ho_upF hk]
          have sB : sm pLa σ τ2 := by rw [hτ2]; exact sm_up sA rfl
          rw [← hτ2]
          clear hτ2
          have r33 : τ2 33 = σ 33 := (rk 33 (by omega)).trans q33
          have r34 : τ2 34 = σ 34 := (rk 34 (by omega)).trans q34
          refine sp_lays (n := N) hc16 (by rw [r1]; omega) (by rw [r1]; have := h2.1; omega) r5 hN (by omega) (by omega) (by omega) (fun i hi => by rw [r34, r1]; have u := h2.2.2.2.1 i hi; have w := h2.2.2.2.2.1 i hi; omega) (fun i k hi hk w => by
            rw [r34] at w
            have u := h2.2.2.2.1 i hi
            have u' := h2.2.2.2.1 k hk
            exact h2.2.2.2.2.2 i k hi hk (by omega)) (by rw [r33]; exact h5.1) (fun Lm s l l1 l2 l3 => ?_)
          rw [r33, r34, r1] at l2
          rw [r33, r34] at l1
          rw [r34] at l3
          have me := marks_eq (x11 := σa 11) (g := g) (Lm := Lm) (υ := σ) h1 h2 h5 hc16 (show a + n ≤ N by omega) (fun m hm => by rw [a11 _ (by omega), h5.2.1 m hm]) (fun i hi => g1 i (by omega)) (fun k hk => g2 k (fun i hi => hk i (by omega))) l1 l2
          refine sp_forgetsAll hc16 ?_
          obtain ⟨υ, hυ⟩ : ∃ υ, υ = sa (ho_up (ho_up (sa τ2 33 Lm) 37 c s) 38 c l) 44 (fgn ((ho_up (ho_up (sa τ2 33 Lm) 37 c s) 38 c l) 44) (3 * c) 3) := ⟨_, rfl⟩
          have uk : ∀ k, k ≠ 33 → k ≠ 37 → k ≠ 38 → k ≠ 44 → υ k = τ2 k := fun k a1 a2 a3 a4 => by rw [hυ, saF a4, ho_upF a3, ho_upF a2, saF a1]
          have u33 : υ 33 = Lm := by rw [hυ, saF (show (33 : Nat) ≠ 44 by decide), ho_upF (show (33 : Nat) ≠ 38 by decide), ho_upF (show (33 : Nat) ≠ 37 by decide), saE]
          have u37 : ∀ i, υ 37 i = if i = c then s else σ 37 i := fun i => by rw [hυ, saF (show (37 : Nat) ≠ 44 by decide), ho_upF (show (37 : Nat) ≠ 38 by decide), ho_upA, saF (show (37 : Nat) ≠ 33 by decide), rk 37 (by omega), q37]
          have u38 : ∀ i, υ 38 i = if i = c then l else σ 38 i := fun i => by rw [hυ, saF (show (38 : Nat) ≠ 44 by decide), ho_upA, ho_upF (show (38 : Nat) ≠ 37 by decide), saF (show (38 : Nat) ≠ 33 by decide), rk 38 (by omega), q38]
          have u44 : υ 44 = fgn (σ 44) (3 * c) 3 := by rw [hυ, saE, ho_upF (show (44 : Nat) ≠ 38 by decide), ho_upF (show (44 : Nat) ≠ 37 by decide), saF (show (44 : Nat) ≠ 33 by decide), rk 44 (by omega), q44]
          have us : sm pLa σ υ := by rw [hυ]; exact sm_sa (sm_up (sm_up (sm_sa sB (fun _ => rfl)) rfl) rfl) (fun _ => rfl)
          rw [← hυ]
          have e30 := uk 30 (by omega) (by omega) (by omega) (by omega)
          refine ⟨by rw [e30]; exact r0, ?_, Inv_la (s := s) (l := l) hj h1 h2 h3 h4 h5 h6 h7 h8 h9 h11 h12 h13 (Or.inl ⟨rfl, by omega⟩) (by omega) (show 0 < n by omega) (show a + n ≤ N by omega) us ?_ (by rw [e30]; exact r8) (by rw [u33]; exact me.1) (fun m hm => ?_) (fun i => ?_) (fun i => ?_) u37 u38 (by rw [u33]; exact l3) ?_⟩
          · rw [uk 54 (by omega) (by omega) (by omega) (by omega), rk 54 (by omega), τ54]
            exact (h6.1 c (by omega)).1
          · rw [uk 0 (by omega) (by omega) (by omega) (by omega), rk 0 (by omega), q0]; exact h1.2.2.2.2.1
          · rw [uk 11 (by omega) (by omega) (by omega) (by omega), rk 11 (by omega), p11, u33]; exact me.2 m hm
          · rw [uk 13 (by omega) (by omega) (by omega) (by omega), rk 13 (by omega)]; exact p13 i
          · rw [uk 14 (by omega) (by omega) (by omega) (by omega), rk 14 (by omega)]; exact p14 i
          · intro i hi
            rw [uk 27 (by omega) (by omega) (by omega) (by omega), rk 27 (by omega), u44, p27]
            unfold fgn
            rw [h10 i hi]
        · rw [if_neg c3]
          exact Or.inr ⟨by trivial, thr.2.2.1 c0 c1 c3⟩
    · rw [if_pos c1]
      exact Or.inl ⟨by trivial, thr.2.1 c0 c1⟩
  · rw [if_neg c0]
    exact Or.inl ⟨by trivial, thr.1 c0⟩
